/** What the tests share: it compares answers with what is due, and counts those that differ. */
final class Check {
    /** A call of the program that answers a number. */
    interface Call {
        long answer();
    }

    private int seen = 0;
    private int wrong = 0;
    private String promise = "";

    /** Names the promise that the next comparisons belong to. */
    void promise(String name) {
        promise = name;
    }

    void due(String what, long got, long want) {
        seen++;
        if (got != want) {
            tellWrong(what, String.valueOf(got), String.valueOf(want));
        }
    }

    void due(String what, boolean got, boolean want) {
        seen++;
        if (got != want) {
            tellWrong(what, String.valueOf(got), String.valueOf(want));
        }
    }

    void due(String what, double got, double want) {
        seen++;
        if (Double.compare(got, want) != 0) {
            tellWrong(what, String.valueOf(got), String.valueOf(want));
        }
    }

    void due(String what, String got, String want) {
        seen++;
        if (!got.equals(want)) {
            tellWrong(what, got, want);
        }
    }

    void throwsIndex(String what, LockRooms room, Call call) {
        throwsExactly(what, room, call, IndexOutOfBoundsException.class);
    }

    void throwsArgument(String what, LockRooms room, Call call) {
        throwsExactly(what, room, call, IllegalArgumentException.class);
    }

    void throwsState(String what, LockRooms room, Call call) {
        throwsExactly(what, room, call, IllegalStateException.class);
    }

    /** Exactly this class, as the machine's own exceptions are of classes below; and nothing is changed. */
    private void throwsExactly(String what, LockRooms room, Call call, Class<?> due) {
        long before = room.digest();
        String got;
        try {
            got = "answer " + call.answer();
        } catch (RuntimeException e) {
            got = e.getClass().getName();
        }
        due(what, got, due.getName());
        due(what + ": the digest behind it", room.digest(), before);
    }

    private void tellWrong(String what, String got, String want) {
        wrong++;
        if (wrong <= 50) {
            System.out.println(promise + ": " + what + " is " + got + ", due is " + want);
        }
    }

    /** Ends the program: with exit code 1, if something was wrong or nothing was compared. */
    void end() {
        System.out.println(seen + " comparisons, " + wrong + " wrong");
        if (wrong != 0 || seen == 0) {
            System.exit(1);
        }
    }
}
