import java.util.Random;
import java.util.function.Supplier;

/** Runs of calls drawn by fixed seeds, each answer compared with that of Model. */
public final class ModelTest {
    private static final int RUNS = 600;
    private static final int WIDE_RUNS = 25;
    private static final int CALLS = 300;

    private final Check check;
    private final Random random;
    private final LockRooms room = new LockRooms();
    private final Model model = new Model();
    private final StringBuilder told = new StringBuilder();
    private boolean isRight = true;

    private ModelTest(Check check, long seed) {
        this.check = check;
        this.random = new Random(seed);
    }

    public static void main(String[] args) {
        Check check = new Check();
        for (int seed = 0; seed < RUNS; seed++) {
            check.promise("run of seed " + seed);
            new ModelTest(check, seed).run(2 + seed % 6, 2 + seed % 9, CALLS);
        }
        // Wide rooms have many stands, which the model walks slowly: few of them, and short.
        for (int seed = 0; seed < WIDE_RUNS; seed++) {
            check.promise("wide run of seed " + seed);
            new ModelTest(check, -1 - seed).run(8 + seed % 3, 10 + seed % 3, 25);
        }
        check.end();
    }

    private void run(int locks, int things, int calls) {
        tellRoom(locks, things);
        for (int k = 0; k < calls && isRight; k++) {
            call();
        }
    }

    private void tellRoom(int locks, int things) {
        for (int k = 0; k < locks; k++) {
            int needs = someOf(things, locks > 7 ? 2 : 1 + random.nextInt(3));
            boolean isExit = k == locks - 1 ? random.nextInt(8) > 0 : random.nextInt(8) == 0;
            lock(needs, needs & random.nextInt(4096), 1 + random.nextInt(60), random.nextInt(4) == 0, isExit);
        }
        for (int k = 0; k < things; k++) {
            thing(random.nextInt(2) == 0 ? -1 : random.nextInt(locks), random.nextInt(10));
        }
    }

    private int someOf(int numbers, int most) {
        int set = 0;
        for (int k = 0; k < most; k++) {
            set |= 1 << random.nextInt(numbers);
        }
        return random.nextInt(12) == 0 ? 0 : set;
    }

    private void lock(int needs, int keeps, int hard, boolean isMagnet, boolean isExit) {
        compare("lock(" + needs + ", " + keeps + ", " + hard + ", " + isMagnet + ", " + isExit + ")",
            () -> "" + room.lock(needs, keeps, hard, isMagnet, isExit),
            model.lock(needs, keeps, hard, isMagnet, isExit));
    }

    private void thing(int place, int hid) {
        compare("thing(" + place + ", " + hid + ")", () -> "" + room.thing(place, hid), model.thing(place, hid));
    }

    private void call() {
        int kind = random.nextInt(100);
        int k = random.nextInt(13) - 1;
        if (kind < 22) {
            play(k);
        } else if (kind < 52) {
            disturb(k);
        } else if (kind < 55) {
            tellMore();
        } else if (kind < 80) {
            ask(k);
        } else {
            askWhatWouldBe();
        }
    }

    private void play(int k) {
        switch (random.nextInt(8)) {
            case 0 -> compare("begin()", () -> "" + room.begin(), model.begin());
            case 1, 2 -> {
                int minutes = random.nextInt(12) == 0 ? random.nextInt(93) - 1 : 1 + random.nextInt(4);
                compare("pass(" + minutes + ")", () -> "" + room.pass(minutes), model.pass(minutes));
            }
            case 3, 4 -> compare("hint(" + k + ")", () -> "" + room.hint(k), model.hint(k));
            case 5, 6 -> {
                int skill = random.nextInt(8) == 0 ? random.nextInt(12) - 1 : 1 + random.nextInt(9);
                compare("player(" + skill + ")", () -> "" + room.player(skill), model.player(skill));
            }
            default -> {
                if (random.nextInt(6) == 0) {
                    compare("stop()", () -> "" + room.stop(), model.stop());
                }
            }
        }
    }

    private void disturb(int k) {
        switch (random.nextInt(9)) {
            case 0 -> compare("steal(" + k + ")", () -> "" + room.steal(k), model.steal(k));
            case 1 -> compare("spare(" + k + ")", () -> "" + room.spare(k), model.spare(k));
            case 2 -> {
                if (random.nextInt(3) == 0) {
                    compare("breaks(" + k + ")", () -> "" + room.breaks(k), model.breaks(k));
                }
            }
            case 3 -> compare("repair(" + k + ")", () -> "" + room.repair(k), model.repair(k));
            case 4 -> {
                boolean is = random.nextInt(4) > 0;
                compare("power(" + is + ")", () -> "" + room.power(is), model.power(is));
            }
            case 5, 6 -> compare("put(" + k + ")", () -> "" + room.put(k), model.put(k));
            default -> compare("shut(" + k + ")", () -> "" + room.shut(k), model.shut(k));
        }
    }

    private void tellMore() {
        switch (random.nextInt(6)) {
            case 0 -> {
                int needs = random.nextInt(4) == 0 ? random.nextInt(5000) - 100 : someOf(12, 2);
                int keeps = random.nextInt(4) == 0 ? random.nextInt() : needs & random.nextInt();
                lock(needs, keeps, random.nextInt(64) - 1, random.nextBoolean(), random.nextInt(4) == 0);
            }
            default -> thing(random.nextInt(13) - 2, random.nextInt(12) - 1);
        }
    }

    private void ask(int k) {
        int what = random.nextInt(12) - 1;
        switch (random.nextInt(6)) {
            case 0 -> compare("ofLock(" + k + ", " + what + ")", () -> "" + room.ofLock(k, what),
                model.ofLock(k, what));
            case 1 -> compare("ofThing(" + k + ", " + what + ")", () -> "" + room.ofThing(k, what),
                model.ofThing(k, what));
            case 2 -> compare("ofPlayer(" + k + ", " + what + ")", () -> "" + room.ofPlayer(k, what),
                model.ofPlayer(k, what));
            case 3 -> compare("meanScore()", () -> "" + room.meanScore(), model.meanScore());
            default -> {
                int which = random.nextInt(21) - 1;
                compare("many(" + which + ")", () -> "" + room.many(which), model.many(which));
            }
        }
    }

    private void askWhatWouldBe() {
        switch (random.nextInt(8)) {
            case 0 -> compare("canEnd()", () -> room.canEnd() ? "1" : "0", model.canEnd());
            case 1 -> compare("stands()", () -> "" + room.stands(), model.stands());
            case 2 -> compare("deadEnds()", () -> "" + room.deadEnds(), model.deadEnds());
            case 3 -> compare("depth()", () -> "" + room.depth(), model.depth());
            case 4 -> compare("cannotMiss()", () -> "" + room.cannotMiss(), model.cannotMiss());
            case 5 -> compare("bestHint()", () -> "" + room.bestHint(), model.bestHint());
            case 6 -> compare("endsAt()", () -> "" + room.endsAt(), model.endsAt());
            default -> compare("digest()", () -> "" + room.digest(), model.digest());
        }
    }

    private void compare(String call, Supplier<String> answer, String want) {
        String got;
        try {
            got = answer.get();
        } catch (RuntimeException e) {
            got = "throws " + e.getClass().getSimpleName();
        }
        told.append(call).append(" -> ").append(got).append('\n');
        check.due(call, got, want);
        if (isRight && !got.equals(want)) {
            isRight = false;
            System.out.println(told);
        }
    }
}
