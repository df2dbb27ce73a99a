import java.util.ArrayList;
import java.util.List;
import java.util.function.Consumer;

/**
 * The words behind section 5: "A method that throws an exception changes nothing. If several exceptions
 * apply, the one that is named first is thrown."
 */
public final class RefusedTest {
    private static final Check CHECK = new Check();
    private static final int[] NUMBERS = {Integer.MIN_VALUE, -2, -1, 0, 1, 2, 5, 9, 10, 11, 12, Integer.MAX_VALUE};

    private static final List<Class<?>> NAMED = List.of(IndexOutOfBoundsException.class,
        IllegalArgumentException.class, IllegalStateException.class);

    /** A call, as text and as what it does. */
    private static final class Call {
        final String text;
        final Consumer<LockRooms> does;

        Call(String text, Consumer<LockRooms> does) {
            this.text = text;
            this.does = does;
        }
    }

    public static void main(String[] args) {
        changesNothing("an empty room", room -> { });
        changesNothing("a small room", RefusedTest::tellSmall);
        changesNothing("a full room", RefusedTest::tellFull);
        changesNothing("a game", RefusedTest::playOn);
        changesNothing("a game that was solved", RefusedTest::solve);
        changesNothing("the last minute", RefusedTest::waitForTheEnd);
        firstOfLock();
        firstOfThing();
        firstOfPlayer();
        firstOfPass();
        firstOfHint();
        firstOfPutAndShut();
        firstOfAsked();
        CHECK.end();
    }

    private static void tellSmall(LockRooms room) {
        room.lock(1, 1, 9, false, false);
        room.lock(6, 2, 12, true, true);
        room.lock(0, 0, 30, true, false);
        room.thing(-1, 3);
        room.thing(0, 0);
        room.thing(-1, 9);
        room.player(4);
        room.player(7);
    }

    private static void tellFull(LockRooms room) {
        for (int k = 0; k < 10; k++) {
            room.lock(1 << k, k % 2 << k, 5 + k, k % 3 == 0, k == 9);
        }
        for (int k = 0; k < 12; k++) {
            room.thing(k % 4 == 0 ? -1 : k - 2, k % 10);
        }
        for (int k = 0; k < 6; k++) {
            room.player(1 + k);
        }
    }

    /** Three hints for lock 2, thing 0 kept, thing 2 stolen, lock 0 broken. */
    private static void playOn(LockRooms room) {
        tellSmall(room);
        room.begin();
        room.hint(2);
        room.hint(2);
        room.hint(2);
        room.pass(4);
        room.breaks(0);
        room.steal(2);
    }

    private static void solve(LockRooms room) {
        playOn(room);
        room.spare(2);
        room.pass(40);
        room.power(false);
    }

    private static void waitForTheEnd(LockRooms room) {
        solve(room);
        while (room.many(0) < 9999) {
            room.pass(Math.min(90, 9999 - room.many(0)));
        }
    }

    /** Tries every call on a room of its own: behind one that was refused, all is as in a room without it. */
    private static void changesNothing(String when, Consumer<LockRooms> tell) {
        CHECK.promise("\"A method that throws an exception changes nothing\", in " + when);
        LockRooms without = new LockRooms();
        tell.accept(without);
        String due = lifeOf(without);
        int refused = 0;
        for (Call call : allCalls()) {
            LockRooms room = new LockRooms();
            tell.accept(room);
            if (isRefused(room, call)) {
                refused++;
                CHECK.due("what comes behind " + call.text, lifeOf(room), due);
            }
        }
        CHECK.due("many calls were refused", refused > 100, true);
    }

    private static boolean isRefused(LockRooms room, Call call) {
        try {
            call.does.accept(room);
            return false;
        } catch (RuntimeException e) {
            boolean isNamed = NAMED.contains(e.getClass());
            CHECK.due(e.getClass().getName() + " of " + call.text + " is one that the document names", isNamed, true);
            return true;
        }
    }

    /** What a room answers, now and in what can be done with it yet. */
    private static String lifeOf(LockRooms room) {
        StringBuilder life = new StringBuilder();
        tellAll(room, life);
        for (int k = 0; k < 10; k++) {
            int number = k;
            tellResult(life, room, r -> life.append(r.hint(number)));
            tellResult(life, room, r -> life.append(r.pass(1)));
            tellAll(room, life);
        }
        tellResult(life, room, r -> life.append(r.stop()));
        for (int k = 0; k < 3; k++) {
            int number = k;
            tellResult(life, room, r -> life.append(r.spare(number)));
            tellResult(life, room, r -> life.append(r.repair(number)));
            tellResult(life, room, r -> life.append(r.put(number)));
            tellResult(life, room, r -> life.append(r.shut(number)));
        }
        tellResult(life, room, r -> life.append(r.player(9)));
        tellResult(life, room, r -> life.append(r.begin()));
        tellResult(life, room, r -> life.append(r.pass(60)));
        tellAll(room, life);
        tellResult(life, room, r -> life.append(r.lock(3, 1, 8, true, true)));
        tellResult(life, room, r -> life.append(r.thing(0, 4)));
        tellResult(life, room, r -> life.append(r.power(false)));
        tellAll(room, life);
        return life.toString();
    }

    private static void tellAll(LockRooms room, StringBuilder life) {
        life.append(room.digest()).append(' ').append(room.meanScore()).append('\n');
    }

    private static void tellResult(StringBuilder life, LockRooms room, Consumer<LockRooms> does) {
        try {
            does.accept(room);
        } catch (RuntimeException e) {
            life.append(e.getClass().getSimpleName());
        }
        life.append('\n');
    }

    private static List<Call> allCalls() {
        List<Call> calls = new ArrayList<>();
        for (int number : NUMBERS) {
            addOfNumber(calls, number);
            for (int other : NUMBERS) {
                addOfTwo(calls, number, other);
            }
        }
        for (int hard : new int[] {0, 61, 1}) {
            for (int needs : new int[] {-1, 4096, 6}) {
                for (int keeps : new int[] {-1, 8, 6}) {
                    calls.add(new Call("lock(" + needs + ", " + keeps + ", " + hard + ", true, true)",
                        r -> r.lock(needs, keeps, hard, true, true)));
                }
            }
        }
        calls.add(new Call("begin()", r -> r.begin()));
        calls.add(new Call("stop()", r -> r.stop()));
        calls.add(new Call("pass(90)", r -> r.pass(90)));
        calls.add(new Call("pass(91)", r -> r.pass(91)));
        return calls;
    }

    private static void addOfNumber(List<Call> calls, int number) {
        calls.add(new Call("player(" + number + ")", r -> r.player(number)));
        calls.add(new Call("pass(" + number + ")", r -> r.pass(number)));
        calls.add(new Call("hint(" + number + ")", r -> r.hint(number)));
        calls.add(new Call("steal(" + number + ")", r -> r.steal(number)));
        calls.add(new Call("spare(" + number + ")", r -> r.spare(number)));
        calls.add(new Call("breaks(" + number + ")", r -> r.breaks(number)));
        calls.add(new Call("repair(" + number + ")", r -> r.repair(number)));
        calls.add(new Call("put(" + number + ")", r -> r.put(number)));
        calls.add(new Call("shut(" + number + ")", r -> r.shut(number)));
        calls.add(new Call("many(" + number + ")", r -> r.many(number)));
    }

    private static void addOfTwo(List<Call> calls, int number, int other) {
        String both = "(" + number + ", " + other + ")";
        calls.add(new Call("thing" + both, r -> r.thing(number, other)));
        calls.add(new Call("ofLock" + both, r -> r.ofLock(number, other)));
        calls.add(new Call("ofThing" + both, r -> r.ofThing(number, other)));
        calls.add(new Call("ofPlayer" + both, r -> r.ofPlayer(number, other)));
    }

    /** Names the rule for the calls to which several exceptions apply. */
    private static void firstIsThrownOf(String method) {
        CHECK.promise("\"If several exceptions apply, the one that is named first is thrown.\", of " + method);
    }

    private static LockRooms roomOf(Consumer<LockRooms> tell) {
        LockRooms room = new LockRooms();
        tell.accept(room);
        return room;
    }

    private static void firstOfLock() {
        firstIsThrownOf("lock");
        LockRooms full = roomOf(RefusedTest::tellFull);
        LockRooms game = roomOf(RefusedTest::playOn);
        for (LockRooms room : List.of(full, game)) {
            CHECK.throwsArgument("needs", room, () -> room.lock(4096, 0, 1, false, true));
            CHECK.throwsArgument("keeps", room, () -> room.lock(1, 2, 1, false, true));
            CHECK.throwsArgument("hard", room, () -> room.lock(1, 1, 0, false, true));
            CHECK.throwsState("none of these", room, () -> room.lock(1, 1, 1, false, true));
        }
    }

    private static void firstOfThing() {
        firstIsThrownOf("thing");
        LockRooms full = roomOf(RefusedTest::tellFull);
        LockRooms game = roomOf(RefusedTest::playOn);
        for (LockRooms room : List.of(full, game)) {
            CHECK.throwsIndex("place alone", room, () -> room.thing(10, 0));
            CHECK.throwsIndex("place and hid", room, () -> room.thing(-2, 10));
            CHECK.throwsArgument("hid alone", room, () -> room.thing(-1, 10));
            CHECK.throwsState("neither", room, () -> room.thing(-1, 0));
        }
        LockRooms small = roomOf(RefusedTest::tellSmall);
        CHECK.throwsIndex("place and hid in a small room", small, () -> small.thing(3, -1));
    }

    private static void firstOfPlayer() {
        firstIsThrownOf("player");
        LockRooms full = roomOf(RefusedTest::tellFull);
        LockRooms game = roomOf(RefusedTest::playOn);
        for (LockRooms room : List.of(full, game)) {
            CHECK.throwsArgument("skill 0", room, () -> room.player(0));
            CHECK.throwsArgument("skill 10", room, () -> room.player(10));
            CHECK.throwsState("skill 1", room, () -> room.player(1));
        }
    }

    private static void firstOfPass() {
        firstIsThrownOf("pass");
        LockRooms room = roomOf(RefusedTest::waitForTheEnd);
        CHECK.throwsArgument("91", room, () -> room.pass(91));
        CHECK.throwsArgument("the most", room, () -> room.pass(Integer.MAX_VALUE));
        CHECK.throwsArgument("0", room, () -> room.pass(0));
        CHECK.throwsState("90", room, () -> room.pass(90));
    }

    private static void firstOfHint() {
        firstIsThrownOf("hint");
        LockRooms small = roomOf(RefusedTest::tellSmall);
        CHECK.throwsIndex("no lock, no game", small, () -> small.hint(3));
        CHECK.throwsIndex("lock -1, no game", small, () -> small.hint(-1));
        CHECK.throwsState("no game", small, () -> small.hint(2));
    }

    private static void firstOfPutAndShut() {
        firstIsThrownOf("put and shut");
        LockRooms game = roomOf(RefusedTest::playOn);
        LockRooms late = roomOf(RefusedTest::waitForTheEnd);
        for (LockRooms room : List.of(game, late)) {
            CHECK.throwsIndex("put of no thing", room, () -> room.put(3));
            CHECK.throwsState("put of one that is kept", room, () -> room.put(0));
            CHECK.throwsIndex("shut of no lock", room, () -> room.shut(3));
            CHECK.throwsState("shut of one that is open", room, () -> room.shut(0));
        }
    }

    private static void firstOfAsked() {
        firstIsThrownOf("ofLock, ofThing and ofPlayer");
        LockRooms empty = new LockRooms();
        LockRooms small = roomOf(RefusedTest::tellSmall);
        for (LockRooms room : List.of(empty, small)) {
            for (int wrong : new int[] {-1, 99}) {
                CHECK.throwsIndex("no lock", room, () -> room.ofLock(3, wrong));
                CHECK.throwsIndex("no thing", room, () -> room.ofThing(3, wrong));
                CHECK.throwsIndex("no player", room, () -> room.ofPlayer(3, wrong));
            }
        }
        CHECK.throwsArgument("a lock", small, () -> small.ofLock(2, 99));
        CHECK.throwsArgument("a thing", small, () -> small.ofThing(2, 99));
        CHECK.throwsArgument("a player", small, () -> small.ofPlayer(1, 99));
    }
}
