/** Promises 16 to 20: a test for each sentence of the document that names an edge. */
public final class EdgeAskTest {
    private static final Check CHECK = new Check();

    public static void main(String[] args) {
        noSuchLock();
        noSuchThing();
        noSuchPlayer();
        whatOfLock();
        whatOfThing();
        whatOfPlayer();
        whatOfRoom();
        latestMinute();
        idledInThisGame();
        timeOfTheLatest();
        hintsInTheLatest();
        fullSets();
        needers();
        meanOfNone();
        meanNotRounded();
        CHECK.end();
    }

    private static void beginWith(LockRooms room, int... skills) {
        for (int skill : skills) {
            room.player(skill);
        }
        room.begin();
    }

    private static LockRooms smallRoom() {
        LockRooms room = new LockRooms();
        room.lock(1, 0, 9, false, true);
        room.lock(2, 0, 9, false, false);
        room.thing(-1, 9);
        room.player(3);
        return room;
    }

    private static void noSuchLock() {
        CHECK.promise("ofLock: \"if there is no such LOCK\"");
        LockRooms empty = new LockRooms();
        CHECK.throwsIndex("0 of none", empty, () -> empty.ofLock(0, 0));
        LockRooms room = smallRoom();
        CHECK.due("1 of two", room.ofLock(1, 0), 2);
        for (int wrong : new int[] {2, 10, -1, Integer.MIN_VALUE, Integer.MAX_VALUE}) {
            CHECK.throwsIndex("lock " + wrong, room, () -> room.ofLock(wrong, 0));
        }
    }

    private static void noSuchThing() {
        CHECK.promise("ofThing: \"if there is no such THING\"");
        LockRooms empty = new LockRooms();
        CHECK.throwsIndex("0 of none", empty, () -> empty.ofThing(0, 0));
        LockRooms room = smallRoom();
        CHECK.due("0 of one", room.ofThing(0, 1), 9);
        for (int wrong : new int[] {1, 12, -1, Integer.MIN_VALUE, Integer.MAX_VALUE}) {
            CHECK.throwsIndex("thing " + wrong, room, () -> room.ofThing(wrong, 0));
        }
    }

    private static void noSuchPlayer() {
        CHECK.promise("ofPlayer: \"if there is no such PLAYER\"");
        LockRooms empty = new LockRooms();
        CHECK.throwsIndex("0 of none", empty, () -> empty.ofPlayer(0, 0));
        LockRooms room = smallRoom();
        CHECK.due("0 of one", room.ofPlayer(0, 0), 3);
        for (int wrong : new int[] {1, 6, -1, Integer.MIN_VALUE, Integer.MAX_VALUE}) {
            CHECK.throwsIndex("player " + wrong, room, () -> room.ofPlayer(wrong, 0));
        }
        room.begin();
        room.stop();
        CHECK.throwsIndex("0 as it is gone", room, () -> room.ofPlayer(0, 0));
    }

    private static void whatOfLock() {
        CHECK.promise("\"what is not 0 to 9\"");
        LockRooms room = smallRoom();
        CHECK.due("0", room.ofLock(0, 0), 1);
        CHECK.due("9", room.ofLock(0, 9), 0);
        for (int wrong : new int[] {-1, 10, Integer.MIN_VALUE, Integer.MAX_VALUE}) {
            CHECK.throwsArgument("what " + wrong, room, () -> room.ofLock(0, wrong));
        }
    }

    private static void whatOfThing() {
        CHECK.promise("\"what is not 0 to 5\"");
        LockRooms room = smallRoom();
        CHECK.due("0", room.ofThing(0, 0), -1);
        CHECK.due("5", room.ofThing(0, 5), 1);
        for (int wrong : new int[] {-1, 6, Integer.MIN_VALUE, Integer.MAX_VALUE}) {
            CHECK.throwsArgument("what " + wrong, room, () -> room.ofThing(0, wrong));
        }
    }

    private static void whatOfPlayer() {
        CHECK.promise("\"what is not 0 to 3\"");
        LockRooms room = smallRoom();
        CHECK.due("0", room.ofPlayer(0, 0), 3);
        CHECK.due("3", room.ofPlayer(0, 3), 0);
        for (int wrong : new int[] {-1, 4, Integer.MIN_VALUE, Integer.MAX_VALUE}) {
            CHECK.throwsArgument("what " + wrong, room, () -> room.ofPlayer(0, wrong));
        }
    }

    private static void whatOfRoom() {
        CHECK.promise("\"what is not 0 to 18\"");
        LockRooms room = smallRoom();
        room.pass(2);
        CHECK.due("0", room.many(0), 2);
        CHECK.due("18", room.many(18), 0);
        for (int wrong : new int[] {-1, 19, Integer.MIN_VALUE, Integer.MAX_VALUE}) {
            CHECK.throwsArgument("what " + wrong, room, () -> room.many(wrong));
        }
    }

    private static void latestMinute() {
        CHECK.promise("\"in the latest minute of this game (NONE)\"");
        LockRooms room = smallRoom();
        playerIs(room, "ahead of a game", -1, -1);
        room.pass(1);
        playerIs(room, "as a minute went by without a game", -1, -1);
        room.begin();
        playerIs(room, "ahead of the first minute", -1, -1);
        room.pass(4);
        playerIs(room, "as it searched", -1, 0);
        room.pass(1);
        playerIs(room, "as it worked", 0, -1);
        room.breaks(0);
        playerIs(room, "as that broke since", 0, -1);
        room.pass(1);
        playerIs(room, "as it idled", -1, -1);
    }

    private static void playerIs(LockRooms room, String when, int lock, int thing) {
        CHECK.due("the lock " + when, room.ofPlayer(0, 1), lock);
        CHECK.due("the thing " + when, room.ofPlayer(0, 2), thing);
    }

    private static void idledInThisGame() {
        CHECK.promise("\"how many minutes it IDLED in this game\", \"minutes that PLAYERS IDLED ever\"");
        LockRooms room = new LockRooms();
        CHECK.due("ever, at first", room.many(18), 0);
        for (int game = 1; game <= 3; game++) {
            beginWith(room, 5, 5);
            CHECK.due("as it begins", room.ofPlayer(1, 3), 0);
            room.pass(2);
            CHECK.due("in this game", room.ofPlayer(1, 3), 2);
            room.stop();
            CHECK.due("ever", room.many(18), 4 * game);
        }
    }

    private static void timeOfTheLatest() {
        CHECK.promise("\"TIME of the latest game (0 ahead of any)\"");
        LockRooms room = new LockRooms();
        room.pass(7);
        CHECK.due("ahead of any", room.many(5), 0);
        beginWith(room, 1);
        CHECK.due("as it begins", room.many(5), 0);
        room.pass(4);
        CHECK.due("as it runs", room.many(5), 4);
        room.stop();
        room.pass(5);
        CHECK.due("behind it", room.many(5), 4);
        room.player(1);
        CHECK.due("ahead of the next", room.many(5), 4);
    }

    private static void hintsInTheLatest() {
        CHECK.promise("\"HINTS in the latest game (0 ahead of any; 0 as one BEGINS)\"");
        LockRooms room = new LockRooms();
        room.lock(0, 0, 60, false, true);
        CHECK.due("ahead of any", room.many(10), 0);
        beginWith(room, 1);
        room.hint(0);
        room.hint(0);
        CHECK.due("as it runs", room.many(10), 2);
        room.stop();
        CHECK.due("behind it", room.many(10), 2);
        beginWith(room, 1);
        CHECK.due("as one begins", room.many(10), 0);
        CHECK.due("those of the lock", room.ofLock(0, 6), 2);
    }

    /** Every member of a set that is as large as it can be. */
    private static void fullSets() {
        CHECK.promise("\"A set of THINGS, or of LOCKS, is the sum of 2^k for the number k of each\"");
        LockRooms room = new LockRooms();
        for (int k = 0; k < 10; k++) {
            room.lock(4095, k == 9 ? 4095 : 0, 1, k == 3, k == 9);
        }
        for (int k = 0; k < 12; k++) {
            room.thing(-1, 0);
            CHECK.due("the locks that need it", room.ofThing(k, 5), 1023);
        }
        beginWith(room, 9, 9, 9, 9, 9, 9);
        room.pass(2);
        CHECK.due("found", room.many(14), 4095);
        CHECK.due("ready", room.many(13), 1023);
        CHECK.due("opened", room.pass(2), 10);
        CHECK.due("open", room.many(12), 1023);
        CHECK.due("ready then", room.many(13), 0);
        CHECK.due("kept", room.many(15), 4095);
        CHECK.due("found then", room.many(14), 0);
        CHECK.due("the largest number of a lock", room.ofLock(9, 0), 4095);
        CHECK.due("what it keeps", room.ofLock(9, 1), 4095);
    }

    private static void needers() {
        CHECK.promise("\"the set of LOCKS that NEED it\"");
        LockRooms room = smallRoom();
        CHECK.due("one of two", room.ofThing(0, 5), 1);
        room.thing(-1, 0);
        room.thing(-1, 0);
        CHECK.due("told behind the lock", room.ofThing(1, 5), 2);
        CHECK.due("of none", room.ofThing(2, 5), 0);
        room.lock(7, 7, 9, false, false);
        CHECK.due("of another", room.ofThing(2, 5), 4);
        CHECK.due("of two", room.ofThing(0, 5), 5);
    }

    private static void meanOfNone() {
        CHECK.promise("\"0 without any\"");
        LockRooms room = new LockRooms();
        CHECK.due("without any", room.meanScore(), 0.0);
        beginWith(room, 9);
        CHECK.due("while one runs", room.meanScore(), 0.0);
        room.pass(3);
        room.stop();
        CHECK.due("as one was lost", room.meanScore(), 0.0);
    }

    private static void meanNotRounded() {
        CHECK.promise("\"the mean SCORE of all games that were SOLVED, not rounded\"");
        LockRooms room = new LockRooms();
        room.lock(0, 0, 8, false, true);
        int[] skills = {8, 4, 4, 9, 9, 9, 9};
        double[] means = {1.0, 1.5, 5.0 / 3, 6.0 / 4, 7.0 / 5, 8.0 / 6, 9.0 / 7};
        for (int k = 0; k < skills.length; k++) {
            beginWith(room, skills[k]);
            room.pass(8);
            CHECK.due("of " + (k + 1) + " games", room.meanScore(), means[k]);
            room.shut(0);
            if (room.ofLock(0, 8) == 1) {
                room.repair(0);
            }
        }
        beginWith(room, 1);
        room.pass(5);
        room.stop();
        CHECK.due("one that was lost does not count", room.meanScore(), 9.0 / 7);
    }
}
