/** Promises 16 to 20: what is asked. */
public final class AskTest {
    private static final Check CHECK = new Check();

    public static void main(String[] args) {
        ofLock();
        ofThing();
        ofPlayer();
        many();
        manyReady();
        meanScore();
        CHECK.end();
    }

    private static LockRooms playedRoom() {
        LockRooms room = new LockRooms();
        room.lock(3, 1, 8, true, false);
        room.lock(6, 0, 30, false, true);
        room.thing(-1, 0);
        room.thing(-1, 8);
        room.thing(0, 5);
        room.thing(-1, 9);
        room.player(9);
        room.player(2);
        room.begin();
        room.pass(3);
        return room;
    }

    private static void ofLock() {
        CHECK.promise("Promise 16: ofLock");
        LockRooms room = playedRoom();
        room.breaks(0);
        long[] open = {3, 1, 8, 1, 1, 11, 0, 1, 1, 0};
        for (int what = 0; what <= 9; what++) {
            CHECK.due("ofLock(0, " + what + ")", room.ofLock(0, what), open[what]);
        }
        room.pass(3);
        room.hint(1);
        long[] ready = {6, 0, 30, 0, 0, 27, 1, 0, 0, 1};
        for (int what = 0; what <= 9; what++) {
            CHECK.due("ofLock(1, " + what + ")", room.ofLock(1, what), ready[what]);
        }
        CHECK.throwsIndex("lock 2 of 2", room, () -> room.ofLock(2, 0));
        CHECK.throwsIndex("lock -1", room, () -> room.ofLock(-1, 10));
        CHECK.throwsIndex("the least lock", room, () -> room.ofLock(Integer.MIN_VALUE, 0));
        CHECK.throwsArgument("what 10", room, () -> room.ofLock(0, 10));
        CHECK.throwsArgument("what -1", room, () -> room.ofLock(0, -1));
    }

    private static void ofThing() {
        CHECK.promise("Promise 17: ofThing");
        LockRooms room = playedRoom();
        long[][] things = {{-1, 0, 9, 2, 0, 1}, {-1, 8, 11, 1, 0, 3}, {0, 5, 2, 0, 1, 2}, {-1, 9, 0, 0, 1, 0}};
        for (int k = 0; k < things.length; k++) {
            for (int what = 0; what <= 5; what++) {
                CHECK.due("ofThing(" + k + ", " + what + ")", room.ofThing(k, what), things[k][what]);
            }
        }
        room.stop();
        room.shut(0);
        CHECK.due("not reached behind a shut lock", room.ofThing(2, 4), 0);
        CHECK.throwsIndex("thing 4 of 4", room, () -> room.ofThing(4, 0));
        CHECK.throwsIndex("thing -1", room, () -> room.ofThing(-1, 6));
        CHECK.throwsArgument("what 6", room, () -> room.ofThing(0, 6));
        CHECK.throwsArgument("what -1", room, () -> room.ofThing(0, -1));
    }

    private static void ofPlayer() {
        CHECK.promise("Promise 18: ofPlayer");
        LockRooms room = playedRoom();
        long[][] players = {{9, 0, -1, 0}, {2, -1, 2, 0}};
        for (int k = 0; k < players.length; k++) {
            for (int what = 0; what <= 3; what++) {
                CHECK.due("ofPlayer(" + k + ", " + what + ")", room.ofPlayer(k, what), players[k][what]);
            }
        }
        room.pass(1);
        room.breaks(1);
        room.pass(3);
        CHECK.due("idled", room.ofPlayer(0, 3), 1);
        CHECK.due("idled by the second", room.ofPlayer(1, 3), 3);
        CHECK.due("at no lock", room.ofPlayer(0, 1), -1);
        CHECK.due("at no thing", room.ofPlayer(0, 2), -1);
        CHECK.throwsIndex("player 2 of 2", room, () -> room.ofPlayer(2, 0));
        CHECK.throwsIndex("player -1", room, () -> room.ofPlayer(-1, 4));
        CHECK.throwsArgument("what 4", room, () -> room.ofPlayer(0, 4));
        CHECK.throwsArgument("what -1", room, () -> room.ofPlayer(1, -1));
        room.stop();
        CHECK.throwsIndex("as all are gone", room, () -> room.ofPlayer(0, 0));
    }

    private static void many() {
        CHECK.promise("Promise 19: many");
        LockRooms room = playedRoom();
        long[] many = {3, 2, 4, 2, 1, 3, 0, 0, -1, 36, 0, 1, 1, 0, 2, 1, 0, 1, 0};
        for (int what = 0; what <= 18; what++) {
            CHECK.due("many(" + what + ")", room.many(what), many[what]);
        }
        room.pass(2);
        room.hint(1);
        room.steal(2);
        room.power(false);
        room.pass(90);
        room.put(1);
        long[] lost = {96, 2, 4, 0, 0, 60, 0, 1, -1, 36, 1, 1, 1, 0, 8, 1, 4, 0, 108};
        for (int what = 0; what <= 18; what++) {
            CHECK.due("many(" + what + ") as it was lost", room.many(what), lost[what]);
        }
        room.spare(2);
        room.player(9);
        room.begin();
        room.pass(3);
        long[] solved = {99, 2, 4, 0, 0, 3, 1, 1, 3, 39, 0, 1, 3, 0, 14, 1, 0, 0, 108};
        for (int what = 0; what <= 18; what++) {
            CHECK.due("many(" + what + ") as it was solved", room.many(what), solved[what]);
        }
        CHECK.throwsArgument("what 19", room, () -> room.many(19));
        CHECK.throwsArgument("what -1", room, () -> room.many(-1));
        CHECK.throwsArgument("the greatest what", room, () -> room.many(Integer.MAX_VALUE));
    }

    private static void manyReady() {
        CHECK.promise("Promise 19: many");
        LockRooms room = new LockRooms();
        room.lock(0, 0, 9, false, false);
        room.lock(1, 0, 9, false, false);
        room.lock(0, 0, 9, false, false);
        room.lock(2048, 0, 9, false, false);
        CHECK.due("ready at first", room.many(13), 5);
        room.thing(-1, 0);
        CHECK.due("one that lies is not found", room.many(13), 5);
        room.breaks(0);
        CHECK.due("one broken", room.many(13), 4);
    }

    private static void meanScore() {
        CHECK.promise("Promise 20: meanScore");
        LockRooms room = new LockRooms();
        CHECK.due("without any", room.meanScore(), 0.0);
        room.lock(0, 0, 20, false, true);
        room.player(1);
        room.begin();
        room.stop();
        CHECK.due("without any solved", room.meanScore(), 0.0);
        room.player(9);
        room.player(1);
        room.begin();
        room.pass(2);
        CHECK.due("of a score of 2", room.meanScore(), 2.0);
        room.shut(0);
        room.player(7);
        room.begin();
        CHECK.due("while another runs", room.meanScore(), 2.0);
        room.pass(3);
        CHECK.due("of 2 and 3", room.meanScore(), 2.5);
        room.shut(0);
        room.player(9);
        room.player(1);
        room.begin();
        room.hint(0);
        room.pass(1);
        CHECK.due("of 2, 3, and 1 with a hint", room.meanScore(), 8.0 / 3);
        CHECK.due("the record of these", room.many(8), 2);
    }
}
