/** Promises 5 to 8: a game. */
public final class GameTest {
    private static final Check CHECK = new Check();

    public static void main(String[] args) {
        begin();
        beginWrong();
        passSearches();
        passWorks();
        passInOneMinute();
        passUntilSolved();
        passUntilLost();
        passWearsOut();
        passWrong();
        hint();
        hintWrong();
        stop();
        CHECK.end();
    }

    private static void begin() {
        CHECK.promise("Promise 5: begin");
        LockRooms room = new LockRooms();
        room.lock(0, 0, 60, false, true);
        room.player(3);
        room.player(3);
        CHECK.due("of two", room.begin(), 2);
        CHECK.due("runs", room.many(4), 1);
        CHECK.due("time", room.many(5), 0);
        CHECK.due("coins", room.many(9), 36);
        room.hint(0);
        room.pass(2);
        CHECK.due("hints", room.many(10), 1);
        CHECK.due("time then", room.many(5), 2);
        room.stop();
        room.player(1);
        CHECK.due("time of the latest", room.many(5), 2);
        CHECK.due("of one", room.begin(), 1);
        CHECK.due("time anew", room.many(5), 0);
        CHECK.due("hints anew", room.many(10), 0);
        CHECK.due("more coins", room.many(9), 54);
    }

    private static void beginWrong() {
        CHECK.promise("Promise 5: begin");
        LockRooms room = new LockRooms();
        CHECK.throwsState("of none", room, () -> room.begin());
        room.lock(0, 0, 1, true, true);
        room.player(1);
        room.power(false);
        CHECK.throwsState("with the exit open", room, () -> room.begin());
        room.power(true);
        room.shut(0);
        room.lock(0, 0, 1, true, false);
        room.power(false);
        room.power(true);
        room.shut(0);
        CHECK.due("with another lock open", room.begin(), 1);
        CHECK.throwsState("while one runs", room, () -> room.begin());
        room.pass(1);
        CHECK.throwsState("as all are gone", room, () -> room.begin());
        LockRooms without = new LockRooms();
        without.player(1);
        CHECK.due("without an exit", without.begin(), 1);
    }

    private static void passSearches() {
        CHECK.promise("Promise 6: pass");
        LockRooms room = new LockRooms();
        room.lock(2048, 0, 60, false, true);
        room.thing(0, 0);
        room.thing(-1, 4);
        room.thing(-1, 0);
        room.player(2);
        room.player(4);
        room.player(9);
        room.begin();
        CHECK.due("none opened", room.pass(1), 0);
        CHECK.due("searched by the first", room.ofPlayer(0, 2), 1);
        CHECK.due("searched by the second", room.ofPlayer(1, 2), 2);
        CHECK.due("the third", room.ofPlayer(2, 2), -1);
        CHECK.due("the third idled", room.ofPlayer(2, 3), 1);
        CHECK.due("the first did not", room.ofPlayer(0, 3), 0);
        CHECK.due("searched", room.ofThing(1, 2), 2);
        CHECK.due("not above hid", room.ofThing(1, 3), 0);
        CHECK.due("above hid", room.ofThing(2, 3), 1);
        room.pass(1);
        CHECK.due("as much as hid", room.ofThing(1, 2), 4);
        CHECK.due("not found by that", room.ofThing(1, 3), 0);
        room.pass(1);
        CHECK.due("above hid then", room.ofThing(1, 2), 6);
        CHECK.due("found by that", room.ofThing(1, 3), 1);
        CHECK.due("behind a lock", room.ofThing(0, 2), 0);
        CHECK.due("found ones", room.many(14), 6);
        CHECK.due("idled ever", room.many(18), 5);
        room.pass(1);
        CHECK.due("nothing to search", room.ofPlayer(0, 2), -1);
        CHECK.due("idled then", room.many(18), 8);
        LockRooms slow = new LockRooms();
        slow.thing(-1, 5);
        slow.player(2);
        slow.begin();
        slow.pass(3);
        CHECK.due("searched in each minute", slow.ofThing(0, 2), 6);
        CHECK.due("found in the third", slow.ofThing(0, 3), 1);
    }

    private static void passWorks() {
        CHECK.promise("Promise 6: pass");
        LockRooms room = new LockRooms();
        room.lock(3, 1, 9, false, false);
        room.lock(4, 0, 60, false, true);
        room.thing(-1, 0);
        room.thing(-1, 0);
        room.thing(0, 8);
        room.player(4);
        room.begin();
        CHECK.due("found one", room.pass(1), 0);
        CHECK.due("not ready by one", room.many(13), 0);
        room.pass(1);
        CHECK.due("ready by two", room.many(13), 1);
        CHECK.due("worked twice", room.pass(2), 0);
        CHECK.due("work", room.ofLock(0, 5), 8);
        CHECK.due("at it", room.ofPlayer(0, 1), 0);
        CHECK.due("searches nothing", room.ofPlayer(0, 2), -1);
        CHECK.due("opened", room.pass(1), 1);
        CHECK.due("work beyond hard", room.ofLock(0, 5), 12);
        CHECK.due("open", room.ofLock(0, 4), 1);
        CHECK.due("wear", room.ofLock(0, 7), 1);
        CHECK.due("kept", room.many(15), 1);
        CHECK.due("not kept", room.many(14), 2);
        CHECK.due("reached now", room.ofThing(2, 4), 1);
        CHECK.due("still at it", room.ofPlayer(0, 1), 0);
        room.pass(1);
        CHECK.due("at none", room.ofPlayer(0, 1), -1);
        CHECK.due("searches behind it", room.ofPlayer(0, 2), 2);
        CHECK.due("now", room.many(0), 6);
    }

    /** Each player finds the room as those before left it; two at most work at one lock. */
    private static void passInOneMinute() {
        CHECK.promise("Promise 6: pass");
        LockRooms room = new LockRooms();
        room.lock(1, 0, 60, false, false);
        room.lock(1, 1, 3, false, false);
        room.lock(2, 0, 60, false, true);
        room.thing(-1, 0);
        room.thing(1, 0);
        for (int skill : new int[] {5, 1, 2, 3, 4, 6}) {
            room.player(skill);
        }
        room.begin();
        CHECK.due("opened in one minute", room.pass(1), 1);
        long[] locks = {-1, 0, 0, 1, -1, 2};
        long[] things = {0, -1, -1, -1, 1, -1};
        for (int k = 0; k < 6; k++) {
            CHECK.due("lock of player " + k, room.ofPlayer(k, 1), locks[k]);
            CHECK.due("thing of player " + k, room.ofPlayer(k, 2), things[k]);
        }
        CHECK.due("work of two", room.ofLock(0, 5), 3);
        CHECK.due("as hard as it is", room.ofLock(1, 5), 3);
        CHECK.due("work of one", room.ofLock(2, 5), 6);
        CHECK.due("kept", room.many(15), 1);
        CHECK.due("found", room.many(14), 2);
    }

    private static void passUntilSolved() {
        CHECK.promise("Promise 6: pass");
        LockRooms room = new LockRooms();
        room.lock(0, 0, 3, false, true);
        room.lock(0, 0, 9, false, false);
        room.player(1);
        room.player(2);
        room.player(9);
        room.begin();
        CHECK.due("minutes on", room.pass(10), 1);
        CHECK.due("runs", room.many(4), 0);
        CHECK.due("time", room.many(5), 1);
        CHECK.due("solved", room.many(6), 1);
        CHECK.due("lost", room.many(7), 0);
        CHECK.due("record", room.many(8), 1);
        CHECK.due("players", room.many(3), 0);
        CHECK.due("now", room.many(0), 10);
        CHECK.due("the third had no turn", room.ofLock(1, 5), 0);
        CHECK.due("without a game", room.pass(90), 0);
        CHECK.due("now then", room.many(0), 100);
        CHECK.due("time then", room.many(5), 1);
    }

    private static void passUntilLost() {
        CHECK.promise("Promise 6: pass");
        LockRooms room = new LockRooms();
        room.lock(0, 0, 60, false, true);
        room.player(1);
        room.begin();
        CHECK.due("solved in the last minute", room.pass(60), 1);
        CHECK.due("solved", room.many(6), 1);
        CHECK.due("lost", room.many(7), 0);
        room.shut(0);
        room.lock(0, 0, 1, false, false);
        room.player(1);
        room.begin();
        CHECK.due("one minute too long", room.pass(59), 0);
        CHECK.due("runs", room.many(4), 1);
        room.breaks(0);
        CHECK.due("the other one", room.pass(1), 1);
        CHECK.due("runs no more", room.many(4), 0);
        CHECK.due("lost then", room.many(7), 1);
        CHECK.due("time", room.many(5), 60);
        CHECK.due("players", room.many(3), 0);
        CHECK.due("record", room.many(8), 60);
    }

    private static void passWearsOut() {
        CHECK.promise("Promise 6: pass");
        LockRooms room = new LockRooms();
        room.lock(0, 0, 1, false, true);
        for (int wear = 1; wear <= 3; wear++) {
            room.player(1);
            room.begin();
            CHECK.due("opened", room.pass(1), 1);
            CHECK.due("wear", room.ofLock(0, 7), wear);
            CHECK.due("broken", room.ofLock(0, 8), wear == 3 ? 1 : 0);
            CHECK.due("open", room.ofLock(0, 4), 1);
            room.shut(0);
        }
        CHECK.due("ready", room.ofLock(0, 9), 0);
        room.player(1);
        room.begin();
        CHECK.due("not opened", room.pass(1), 0);
        CHECK.due("idled", room.ofPlayer(0, 3), 1);
    }

    private static void passWrong() {
        CHECK.promise("Promise 6: pass");
        LockRooms room = new LockRooms();
        CHECK.throwsArgument("0 minutes", room, () -> room.pass(0));
        CHECK.throwsArgument("91 minutes", room, () -> room.pass(91));
        CHECK.throwsArgument("the least", room, () -> room.pass(Integer.MIN_VALUE));
        CHECK.throwsArgument("the most", room, () -> room.pass(Integer.MAX_VALUE));
        for (int k = 0; k < 111; k++) {
            room.pass(90);
        }
        CHECK.due("now", room.many(0), 9990);
        CHECK.throwsState("until 10000", room, () -> room.pass(10));
        CHECK.throwsArgument("0 minutes then", room, () -> room.pass(0));
        CHECK.due("until 9999", room.pass(9), 0);
        CHECK.throwsState("no minute more", room, () -> room.pass(1));
        CHECK.throwsArgument("91 minutes then", room, () -> room.pass(91));
        CHECK.due("the last", room.many(0), 9999);
    }

    private static void hint() {
        CHECK.promise("Promise 7: hint");
        LockRooms room = new LockRooms();
        room.lock(0, 0, 60, false, false);
        room.lock(0, 0, 9, false, true);
        room.player(3);
        room.begin();
        CHECK.due("half of 60", room.hint(0), 30);
        CHECK.due("hints", room.ofLock(0, 6), 1);
        room.pass(1);
        CHECK.due("half of 27", room.hint(0), 46);
        CHECK.due("half of 14", room.hint(0), 53);
        CHECK.due("half of 9", room.hint(1), 4);
        CHECK.due("half of 5", room.hint(1), 6);
        CHECK.due("half of 3", room.hint(1), 7);
        CHECK.due("hints of the game", room.many(10), 6);
        CHECK.throwsState("a fourth", room, () -> room.hint(1));
        CHECK.due("not open by hints", room.many(12), 0);
        CHECK.due("opened", room.pass(4), 2);
        CHECK.due("time and two for each hint", room.many(8), 17);
        room.shut(1);
        CHECK.due("hints of the shut one", room.ofLock(1, 6), 0);
        CHECK.due("hints of the latest game", room.many(10), 6);
    }

    private static void hintWrong() {
        CHECK.promise("Promise 7: hint");
        LockRooms room = new LockRooms();
        CHECK.throwsIndex("of no lock", room, () -> room.hint(0));
        room.lock(0, 0, 1, true, false);
        room.lock(1, 0, 8, false, true);
        room.lock(0, 0, 8, false, false);
        CHECK.throwsState("without a game", room, () -> room.hint(0));
        CHECK.throwsIndex("3 of 3", room, () -> room.hint(3));
        CHECK.throwsIndex("-1", room, () -> room.hint(-1));
        room.player(1);
        room.begin();
        CHECK.throwsIndex("3 in a game", room, () -> room.hint(3));
        CHECK.throwsState("not ready", room, () -> room.hint(1));
        CHECK.due("half of 1", room.hint(0), 0);
        room.breaks(2);
        CHECK.throwsState("broken", room, () -> room.hint(2));
        room.power(false);
        CHECK.throwsState("open", room, () -> room.hint(0));
    }

    private static void stop() {
        CHECK.promise("Promise 8: stop");
        LockRooms room = new LockRooms();
        CHECK.throwsState("without a game", room, () -> room.stop());
        room.player(1);
        CHECK.throwsState("before it begins", room, () -> room.stop());
        room.begin();
        room.pass(7);
        CHECK.due("time", room.stop(), 7);
        CHECK.due("runs", room.many(4), 0);
        CHECK.due("lost", room.many(7), 1);
        CHECK.due("solved", room.many(6), 0);
        CHECK.due("record", room.many(8), -1);
        CHECK.due("players", room.many(3), 0);
        CHECK.throwsState("once more", room, () -> room.stop());
        room.player(1);
        room.begin();
        CHECK.due("at once", room.stop(), 0);
        CHECK.due("lost twice", room.many(7), 2);
    }
}
