/** Promises 21 to 28: what would be. */
public final class FutureTest {
    private static final Check CHECK = new Check();

    public static void main(String[] args) {
        straightRoom();
        forkedRoom();
        withoutExit();
        exitOpen();
        exitEndsNothing();
        brokenAndUntold();
        keptAway();
        manyStands();
        cannotMiss();
        bestHint();
        bestHintWithExitOpen();
        endsAt();
        endsAtEdges();
        endsAtAsPlayed();
        eachAskedAlone();
        fullRoom();
        digest();
        CHECK.end();
    }

    /** Lock k needs thing k, which lies behind lock k - 1; the exit is the last. */
    private static LockRooms straight(int locks) {
        LockRooms room = new LockRooms();
        for (int k = 0; k < locks; k++) {
            room.lock(1 << k, 0, 5, false, k == locks - 1);
        }
        for (int k = 0; k < locks; k++) {
            room.thing(k - 1, 0);
        }
        return room;
    }

    private static void futureIs(LockRooms room, boolean canEnd, int stands, int deadEnds, int depth) {
        CHECK.promise("Promise 21: canEnd");
        CHECK.due("canEnd()", room.canEnd(), canEnd);
        CHECK.promise("Promise 22: stands");
        CHECK.due("stands()", room.stands(), stands);
        CHECK.promise("Promise 23: deadEnds");
        CHECK.due("deadEnds()", room.deadEnds(), deadEnds);
        CHECK.promise("Promise 24: depth");
        CHECK.due("depth()", room.depth(), depth);
    }

    private static void straightRoom() {
        LockRooms room = straight(10);
        futureIs(room, true, 11, 0, 10);
        room.player(9);
        room.begin();
        room.pass(2);
        futureIs(room, true, 10, 0, 9);
        room.pass(1);
        room.steal(1);
        futureIs(room, false, 1, 1, -1);
        room.spare(1);
        futureIs(room, true, 10, 0, 9);
    }

    /** Two locks keep the same thing; only behind one of them the way goes on. */
    private static void forkedRoom() {
        LockRooms room = new LockRooms();
        room.lock(1, 1, 5, false, false);
        room.lock(1, 1, 5, false, false);
        room.lock(2, 0, 5, false, true);
        room.thing(-1, 0);
        room.thing(1, 0);
        futureIs(room, true, 4, 1, 2);
        room.player(9);
        room.begin();
        room.pass(2);
        CHECK.due("the wrong one is open", room.many(12), 1);
        futureIs(room, false, 1, 1, -1);
        room.stop();
        room.shut(0);
        futureIs(room, false, 1, 1, -1);
        room.put(0);
        futureIs(room, true, 4, 1, 2);
    }

    private static void withoutExit() {
        LockRooms room = new LockRooms();
        room.lock(0, 0, 5, false, false);
        room.lock(0, 0, 5, false, false);
        futureIs(room, false, 4, 4, -1);
        CHECK.promise("Promise 25: cannotMiss");
        CHECK.due("without an exit", room.cannotMiss(), 0);
        CHECK.promise("Promise 26: bestHint");
        CHECK.due("without an exit", room.bestHint(), -1);
    }

    private static void exitOpen() {
        LockRooms room = new LockRooms();
        room.lock(2048, 0, 5, true, true);
        room.lock(0, 0, 5, false, false);
        futureIs(room, false, 2, 2, -1);
        room.power(false);
        futureIs(room, true, 2, 0, 0);
        CHECK.promise("Promise 25: cannotMiss");
        CHECK.due("with the exit open", room.cannotMiss(), 0);
    }

    private static void exitEndsNothing() {
        LockRooms room = new LockRooms();
        room.lock(0, 0, 60, false, true);
        room.lock(1, 0, 60, false, false);
        room.thing(0, 9);
        futureIs(room, true, 3, 0, 1);
    }

    private static void brokenAndUntold() {
        LockRooms room = straight(3);
        room.breaks(1);
        futureIs(room, false, 2, 2, -1);
        room.repair(1);
        futureIs(room, true, 4, 0, 3);
        LockRooms untold = new LockRooms();
        untold.lock(1, 0, 5, false, true);
        futureIs(untold, false, 1, 1, -1);
        untold.thing(-1, 9);
        futureIs(untold, true, 2, 0, 1);
    }

    /** What a lock kept before counts as gone; what is found stays at hand, though its place is shut. */
    private static void keptAway() {
        LockRooms room = new LockRooms();
        room.lock(1, 1, 5, false, false);
        room.lock(3, 2, 5, false, true);
        room.thing(-1, 0);
        room.thing(0, 0);
        futureIs(room, false, 2, 2, -1);
        LockRooms found = new LockRooms();
        found.lock(1, 0, 5, false, false);
        found.lock(2, 0, 5, false, true);
        found.thing(-1, 0);
        found.thing(0, 0);
        found.player(5);
        found.begin();
        found.pass(3);
        found.stop();
        found.shut(0);
        CHECK.due("found", found.many(14), 3);
        futureIs(found, true, 4, 0, 1);
        CHECK.due("only what the exit needs", found.cannotMiss(), 2);
    }

    private static void manyStands() {
        LockRooms room = new LockRooms();
        for (int k = 0; k < 10; k++) {
            room.lock(0, 0, 5, false, k == 0);
        }
        futureIs(room, true, 1024, 0, 1);
        room.breaks(0);
        futureIs(room, false, 512, 512, -1);
    }

    private static void cannotMiss() {
        CHECK.promise("Promise 25: cannotMiss");
        LockRooms room = new LockRooms();
        room.lock(1, 0, 5, false, false);
        room.lock(2, 0, 5, false, false);
        room.lock(4, 0, 5, false, true);
        room.thing(-1, 0);
        room.thing(-1, 0);
        room.thing(-1, 0);
        CHECK.due("what the exit needs", room.cannotMiss(), 4);
        room.lock(12, 8, 5, false, true);
        room.thing(0, 0);
        CHECK.due("and what is behind a lock", room.cannotMiss(), 13);
        room.player(9);
        room.begin();
        room.pass(1);
        CHECK.due("also one that is found", room.cannotMiss(), 13);
        room.pass(1);
        CHECK.due("not what opened a lock", room.cannotMiss(), 12);
        room.breaks(3);
        CHECK.due("as it cannot be", room.cannotMiss(), 0);
        room.repair(3);
        CHECK.due("as it can be again", room.cannotMiss(), 12);
        CHECK.due("of a straight room", straight(10).cannotMiss(), 1023);
    }

    private static void bestHint() {
        CHECK.promise("Promise 26: bestHint");
        LockRooms room = new LockRooms();
        room.lock(0, 0, 60, false, false);
        room.lock(0, 0, 60, false, false);
        room.lock(0, 0, 60, false, false);
        room.lock(1, 0, 60, false, true);
        CHECK.due("none by which it can end", room.bestHint(), -1);
        room.thing(2, 0);
        CHECK.due("behind which the exit's thing lies", room.bestHint(), 2);
        room.thing(1, 0);
        CHECK.due("not behind which another lies", room.bestHint(), 2);
        room.player(1);
        room.begin();
        room.hint(2);
        room.hint(2);
        room.hint(2);
        CHECK.due("also with 3 hints", room.bestHint(), 2);
        room.breaks(2);
        CHECK.due("none as that is broken", room.bestHint(), -1);
        room.repair(2);
        room.stop();
        room.lock(0, 0, 60, false, true);
        CHECK.due("the exit itself", room.bestHint(), 4);
        room.breaks(4);
        CHECK.due("none as the exit is broken", room.bestHint(), -1);
        LockRooms same = new LockRooms();
        same.lock(2048, 0, 5, false, false);
        same.lock(0, 0, 5, false, false);
        same.lock(0, 0, 5, false, false);
        same.lock(1, 0, 5, false, true);
        same.thing(-1, 0);
        CHECK.due("the smallest number of several", same.bestHint(), 1);
        LockRooms keeper = new LockRooms();
        keeper.lock(1, 1, 60, false, false);
        keeper.lock(1, 0, 60, false, false);
        keeper.lock(1, 0, 60, true, true);
        keeper.thing(-1, 0);
        keeper.player(9);
        keeper.begin();
        keeper.pass(1);
        CHECK.due("the exit is nearer than others", keeper.bestHint(), 2);
        keeper.stop();
        keeper.lock(3, 0, 60, false, true);
        keeper.thing(-1, 0);
        CHECK.due("not one that keeps what is needed", keeper.bestHint(), 1);
    }

    private static void bestHintWithExitOpen() {
        CHECK.promise("Promise 26: bestHint");
        LockRooms room = new LockRooms();
        room.lock(1, 0, 60, false, false);
        room.lock(0, 0, 60, false, false);
        room.lock(0, 0, 60, true, true);
        room.lock(0, 0, 60, false, false);
        room.power(false);
        CHECK.due("the smallest ready one", room.bestHint(), 1);
        room.breaks(1);
        CHECK.due("the next", room.bestHint(), 3);
        room.breaks(3);
        CHECK.due("none ready", room.bestHint(), -1);
    }

    private static void endsAt() {
        CHECK.promise("Promise 27: endsAt");
        LockRooms room = straight(4);
        CHECK.due("as none runs", room.endsAt(), -1);
        room.player(2);
        CHECK.due("before it begins", room.endsAt(), -1);
        room.begin();
        CHECK.due("at first", room.endsAt(), 16);
        long before = room.digest();
        CHECK.due("once more", room.endsAt(), 16);
        CHECK.due("nothing is changed", room.digest(), before);
        CHECK.due("not the minute", room.many(0), 0);
        room.pass(5);
        CHECK.due("in between", room.endsAt(), 16);
        room.pass(1);
        room.hint(1);
        CHECK.due("with a hint", room.endsAt(), 15);
        room.breaks(3);
        CHECK.due("as it would be lost", room.endsAt(), -1);
        room.repair(3);
        room.pass(9);
        CHECK.due("solved", room.many(6), 1);
        CHECK.due("time", room.many(5), 15);
        CHECK.due("as none runs any more", room.endsAt(), -1);
    }

    private static void endsAtEdges() {
        CHECK.promise("Promise 27: endsAt");
        LockRooms room = new LockRooms();
        room.lock(0, 0, 60, false, true);
        room.player(1);
        room.begin();
        CHECK.due("in the last minute", room.endsAt(), 60);
        room.breaks(0);
        room.pass(1);
        room.repair(0);
        CHECK.due("a minute too late", room.endsAt(), -1);
        room.stop();
        for (int k = 0; k < 110; k++) {
            room.pass(90);
        }
        room.pass(90);
        room.player(3);
        room.begin();
        CHECK.due("beyond 9999", room.endsAt(), 20);
        CHECK.throwsState("the minutes cannot go by", room, () -> room.pass(20));
        LockRooms endless = new LockRooms();
        endless.lock(0, 0, 1, false, false);
        endless.player(1);
        endless.begin();
        CHECK.due("without an exit", endless.endsAt(), -1);
    }

    /** What keeps, hides, breaks and lies there counts as in the game itself. */
    private static void endsAtAsPlayed() {
        CHECK.promise("Promise 27: endsAt");
        LockRooms room = new LockRooms();
        room.lock(1, 1, 5, false, false);
        room.lock(1, 0, 30, false, false);
        room.lock(2, 0, 7, false, true);
        room.thing(-1, 9);
        room.thing(0, 6);
        room.player(2);
        room.player(3);
        room.begin();
        int due = room.endsAt();
        CHECK.due("with what is kept and hid", due, 9);
        for (int minute = 1; minute < due; minute++) {
            room.pass(1);
            CHECK.due("at minute " + minute, room.endsAt(), due);
            CHECK.due("runs at minute " + minute, room.many(4), 1);
        }
        room.pass(1);
        CHECK.due("solved then", room.many(6), 1);
        CHECK.due("at that time", room.many(5), due);
        LockRooms kept = new LockRooms();
        kept.lock(1, 1, 5, false, false);
        kept.lock(1, 0, 5, false, true);
        kept.thing(-1, 0);
        kept.player(1);
        kept.begin();
        CHECK.due("as what it needs is kept first", kept.endsAt(), -1);
    }

    /** Each answer is due anew, whatever was asked before. */
    private static void eachAskedAlone() {
        LockRooms room = straight(3);
        CHECK.promise("Promise 23: deadEnds");
        CHECK.due("at first", room.deadEnds(), 0);
        room.breaks(2);
        CHECK.due("as the exit breaks", room.deadEnds(), 3);
        room.repair(2);
        CHECK.promise("Promise 22: stands");
        CHECK.due("as it is repaired", room.stands(), 4);
        CHECK.promise("Promise 26: bestHint");
        room.lock(0, 0, 5, false, true);
        CHECK.due("as another is the exit", room.bestHint(), 3);
        LockRooms first = new LockRooms();
        first.lock(0, 0, 5, false, true);
        CHECK.due("the lock 0", first.bestHint(), 0);
        CHECK.promise("Promise 24: depth");
        CHECK.due("as yet another is", straight(5).depth(), 5);
        CHECK.promise("Promise 21: canEnd");
        room.breaks(3);
        CHECK.due("as that breaks", room.canEnd(), false);
    }

    /** As many locks, things and players as there can be, from the beginning into order again. */
    private static void fullRoom() {
        LockRooms room = straight(10);
        room.thing(9, 0);
        room.thing(-1, 0);
        for (int k = 0; k < 6; k++) {
            room.player(9);
        }
        futureIs(room, true, 11, 0, 10);
        CHECK.promise("Promises 21 to 28: a full room");
        CHECK.due("cannotMiss()", room.cannotMiss(), 1023);
        CHECK.due("digest()", room.digest(), digestOf(room));
        room.begin();
        CHECK.due("endsAt()", room.endsAt(), 4);
        CHECK.due("opened", room.pass(3), 9);
        CHECK.due("cut without magnets", room.power(false), 0);
        CHECK.due("endsAt() then", room.endsAt(), 4);
        CHECK.due("digest() then", room.digest(), digestOf(room));
        CHECK.due("opened at last", room.pass(90), 1);
        CHECK.due("solved", room.many(6), 1);
        futureIs(room, true, 1, 0, 0);
        for (int k = 0; k < 10; k++) {
            CHECK.due("shut " + k, room.shut(k), 9);
            CHECK.due("put " + k, room.put(k), 1);
        }
        CHECK.due("digest() in order again", room.digest(), digestOf(room));
        futureIs(room, true, 11, 0, 10);
    }

    private static void digest() {
        CHECK.promise("Promise 28: digest");
        CHECK.due("of a new object", new LockRooms().digest(), 804375242039053392L);
        LockRooms room = straight(4);
        room.player(5);
        room.player(8);
        room.begin();
        room.pass(3);
        room.steal(1);
        CHECK.due("in a game", room.digest(), digestOf(room));
        room.spare(1);
        room.pass(20);
        room.power(false);
        CHECK.due("behind a game", room.digest(), digestOf(room));
        CHECK.due("once more", room.digest(), digestOf(room));
    }

    /** As the document tells it, from the answers of the other calls. */
    private static long digestOf(LockRooms room) {
        long d = 9102;
        for (int what = 0; what <= 18; what++) {
            d = d * 31 + room.many(what);
        }
        for (int k = 0; k < room.many(1); k++) {
            for (int what = 0; what <= 9; what++) {
                d = d * 31 + room.ofLock(k, what);
            }
        }
        for (int k = 0; k < room.many(2); k++) {
            for (int what = 0; what <= 5; what++) {
                d = d * 31 + room.ofThing(k, what);
            }
        }
        for (int k = 0; k < room.many(3); k++) {
            for (int what = 0; what <= 3; what++) {
                d = d * 31 + room.ofPlayer(k, what);
            }
        }
        d = d * 31 + (room.canEnd() ? 1 : 0);
        d = d * 31 + room.stands();
        d = d * 31 + room.deadEnds();
        d = d * 31 + room.depth();
        d = d * 31 + room.cannotMiss();
        d = d * 31 + room.bestHint();
        return d * 31 + room.endsAt();
    }
}
