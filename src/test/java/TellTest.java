/** Promises 1 to 4: a new object, and what is told. */
public final class TellTest {
    private static final Check CHECK = new Check();

    public static void main(String[] args) {
        newObject();
        lock();
        lockWrong();
        thing();
        thingWrong();
        player();
        playerWrong();
        CHECK.end();
    }

    private static void newObject() {
        CHECK.promise("Promise 1: a new object");
        LockRooms room = new LockRooms();
        long[] many = {0, 0, 0, 0, 0, 0, 0, 0, -1, 0, 0, -1, 0, 0, 0, 0, 0, 1, 0};
        for (int what = 0; what < many.length; what++) {
            CHECK.due("many(" + what + ")", room.many(what), many[what]);
        }
        CHECK.due("meanScore()", room.meanScore(), 0.0);
        CHECK.due("stands()", room.stands(), 1);
        CHECK.due("deadEnds()", room.deadEnds(), 1);
        LockRooms other = new LockRooms();
        other.lock(0, 0, 1, false, true);
        CHECK.due("many(1) beside another object", room.many(1), 0);
    }

    private static void lock() {
        CHECK.promise("Promise 2: lock");
        LockRooms room = new LockRooms();
        CHECK.due("the first", room.lock(0, 0, 1, false, false), 0);
        CHECK.due("the exit so far", room.many(11), -1);
        CHECK.due("the second", room.lock(4095, 4095, 60, true, true), 1);
        CHECK.due("the exit", room.many(11), 1);
        CHECK.due("the third", room.lock(5, 4, 30, false, true), 2);
        CHECK.due("the exit told last", room.many(11), 2);
        CHECK.due("the fourth", room.lock(6, 0, 30, false, false), 3);
        CHECK.due("the exit stays", room.many(11), 2);
        long[] second = {4095, 4095, 60, 1, 0, 0, 0, 0, 0, 0};
        long[] first = {0, 0, 1, 0, 0, 0, 0, 0, 0, 1};
        for (int what = 0; what <= 9; what++) {
            CHECK.due("ofLock(0, " + what + ")", room.ofLock(0, what), first[what]);
            CHECK.due("ofLock(1, " + what + ")", room.ofLock(1, what), second[what]);
        }
        for (int k = 4; k < 10; k++) {
            CHECK.due("number " + k, room.lock(0, 0, 1, false, false), k);
        }
        CHECK.due("how many", room.many(1), 10);
        CHECK.throwsState("an eleventh", room, () -> room.lock(0, 0, 1, false, true));
        CHECK.throwsArgument("a wrong eleventh", room, () -> room.lock(-1, 0, 1, false, true));
    }

    private static void lockWrong() {
        CHECK.promise("Promise 2: lock");
        LockRooms room = new LockRooms();
        CHECK.throwsArgument("needs 4096", room, () -> room.lock(4096, 0, 1, false, true));
        CHECK.throwsArgument("needs -1", room, () -> room.lock(-1, 0, 1, false, true));
        CHECK.throwsArgument("needs the least", room, () -> room.lock(Integer.MIN_VALUE, 0, 1, false, true));
        CHECK.throwsArgument("keeps another", room, () -> room.lock(5, 2, 1, false, true));
        CHECK.throwsArgument("keeps one more", room, () -> room.lock(5, 7, 1, false, true));
        CHECK.throwsArgument("keeps -1", room, () -> room.lock(4095, -1, 1, false, true));
        CHECK.throwsArgument("keeps 4096", room, () -> room.lock(4095, 4096, 1, false, true));
        CHECK.throwsArgument("hard 0", room, () -> room.lock(1, 1, 0, false, true));
        CHECK.throwsArgument("hard 61", room, () -> room.lock(1, 1, 61, false, true));
        CHECK.throwsArgument("hard -5", room, () -> room.lock(1, 1, -5, false, true));
        room.player(1);
        room.begin();
        CHECK.throwsState("in a game", room, () -> room.lock(1, 1, 1, false, true));
        CHECK.throwsArgument("wrong in a game", room, () -> room.lock(1, 1, 61, false, true));
        room.stop();
        CHECK.due("behind the game", room.lock(1, 1, 1, false, true), 0);
    }

    private static void thing() {
        CHECK.promise("Promise 3: thing");
        LockRooms room = new LockRooms();
        room.lock(1, 0, 9, false, true);
        room.lock(3, 0, 9, false, false);
        CHECK.due("the first", room.thing(-1, 0), 0);
        CHECK.due("the second", room.thing(1, 9), 1);
        long[] first = {-1, 0, 0, 0, 1, 3};
        long[] second = {1, 9, 0, 0, 0, 2};
        for (int what = 0; what <= 5; what++) {
            CHECK.due("ofThing(0, " + what + ")", room.ofThing(0, what), first[what]);
            CHECK.due("ofThing(1, " + what + ")", room.ofThing(1, what), second[what]);
        }
        for (int k = 2; k < 12; k++) {
            CHECK.due("number " + k, room.thing(0, 4), k);
        }
        CHECK.due("how many", room.many(2), 12);
        CHECK.throwsState("a thirteenth", room, () -> room.thing(0, 4));
        CHECK.throwsArgument("a hidden thirteenth", room, () -> room.thing(0, 10));
        CHECK.throwsIndex("a thirteenth nowhere", room, () -> room.thing(2, 10));
    }

    private static void thingWrong() {
        CHECK.promise("Promise 3: thing");
        LockRooms room = new LockRooms();
        CHECK.throwsIndex("place 0 without locks", room, () -> room.thing(0, 0));
        CHECK.throwsIndex("place 0 before hid 10", room, () -> room.thing(0, 10));
        CHECK.throwsIndex("place -2", room, () -> room.thing(-2, 0));
        CHECK.throwsIndex("the greatest place", room, () -> room.thing(Integer.MAX_VALUE, 0));
        CHECK.throwsIndex("the least place", room, () -> room.thing(Integer.MIN_VALUE, 0));
        CHECK.throwsArgument("hid 10", room, () -> room.thing(-1, 10));
        CHECK.throwsArgument("hid -1", room, () -> room.thing(-1, -1));
        room.lock(0, 0, 60, false, false);
        CHECK.throwsIndex("place 1 of one lock", room, () -> room.thing(1, 0));
        room.player(1);
        room.begin();
        CHECK.throwsState("in a game", room, () -> room.thing(0, 0));
        CHECK.throwsArgument("wrong in a game", room, () -> room.thing(0, 10));
        CHECK.throwsIndex("nowhere in a game", room, () -> room.thing(1, 0));
        room.stop();
        CHECK.due("behind the game", room.thing(0, 0), 0);
    }

    private static void player() {
        CHECK.promise("Promise 4: player");
        LockRooms room = new LockRooms();
        CHECK.due("the first", room.player(1), 0);
        CHECK.due("the second", room.player(9), 1);
        long[] second = {9, -1, -1, 0};
        for (int what = 0; what <= 3; what++) {
            CHECK.due("ofPlayer(1, " + what + ")", room.ofPlayer(1, what), second[what]);
        }
        for (int k = 2; k < 6; k++) {
            CHECK.due("number " + k, room.player(5), k);
        }
        CHECK.due("how many", room.many(3), 6);
        CHECK.throwsState("a seventh", room, () -> room.player(5));
        CHECK.throwsArgument("a wrong seventh", room, () -> room.player(10));
    }

    private static void playerWrong() {
        CHECK.promise("Promise 4: player");
        LockRooms room = new LockRooms();
        CHECK.throwsArgument("skill 0", room, () -> room.player(0));
        CHECK.throwsArgument("skill 10", room, () -> room.player(10));
        CHECK.throwsArgument("skill -3", room, () -> room.player(-3));
        room.player(2);
        room.begin();
        CHECK.throwsState("in a game", room, () -> room.player(2));
        CHECK.throwsArgument("wrong in a game", room, () -> room.player(0));
        room.pass(3);
        CHECK.due("idled", room.ofPlayer(0, 3), 3);
        room.stop();
        CHECK.due("the first again, as all are gone", room.player(4), 0);
        CHECK.due("its skill", room.ofPlayer(0, 0), 4);
        CHECK.due("what it idled", room.ofPlayer(0, 3), 0);
    }
}
