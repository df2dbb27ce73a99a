/** Section 1 and promises 1 to 4: a test for each sentence of the document that names an edge. */
public final class EdgeToldTest {
    private static final Check CHECK = new Check();

    public static void main(String[] args) {
        emptyRoom();
        tenLocks();
        needsRange();
        keepsOfNeeds();
        hardRange();
        lockAtFirst();
        exitToldLast();
        twelveThings();
        thingPlace();
        hidRange();
        thingAtFirst();
        reached();
        ready();
        neverReady();
        opensWithKeeping();
        brokenAtThree();
        sixPlayers();
        skillRange();
        notInAGame();
        CHECK.end();
    }

    private static void emptyRoom() {
        CHECK.promise("\"Creates an empty room.\"");
        LockRooms room = new LockRooms();
        for (int what : new int[] {0, 1, 2, 3, 4, 5, 6, 7, 9, 10, 12, 13, 14, 15, 16, 18}) {
            CHECK.due("many(" + what + ")", room.many(what), 0);
        }
        CHECK.due("the record", room.many(8), -1);
        CHECK.due("the exit", room.many(11), -1);
        CHECK.due("power", room.many(17), 1);
        CHECK.throwsIndex("lock 0", room, () -> room.ofLock(0, 0));
        CHECK.throwsIndex("thing 0", room, () -> room.ofThing(0, 0));
        CHECK.throwsIndex("player 0", room, () -> room.ofPlayer(0, 0));
    }

    private static void tenLocks() {
        CHECK.promise("\"LOCKS: at most 10, numbered from 0\"");
        LockRooms room = new LockRooms();
        for (int k = 0; k < 10; k++) {
            CHECK.due("number", room.lock(0, 0, 1 + k, false, false), k);
        }
        CHECK.throwsState("an eleventh", room, () -> room.lock(0, 0, 1, false, false));
        CHECK.throwsState("an eleventh that is the exit", room, () -> room.lock(0, 0, 1, false, true));
        CHECK.due("how many", room.many(1), 10);
        CHECK.due("the last", room.ofLock(9, 2), 10);
        CHECK.throwsIndex("lock 10", room, () -> room.ofLock(10, 2));
    }

    private static void needsRange() {
        CHECK.promise("\"needs is not 0 to 4095\"");
        LockRooms room = new LockRooms();
        CHECK.due("0", room.lock(0, 0, 1, false, false), 0);
        CHECK.due("1", room.lock(1, 0, 1, false, false), 1);
        CHECK.due("4095", room.lock(4095, 0, 1, false, false), 2);
        CHECK.due("what it needs", room.ofLock(2, 0), 4095);
        for (int wrong : new int[] {-1, 4096, 4097, 8191, Integer.MIN_VALUE, Integer.MAX_VALUE}) {
            CHECK.throwsArgument("needs " + wrong, room, () -> room.lock(wrong, 0, 1, false, true));
        }
    }

    private static void keepsOfNeeds() {
        CHECK.promise("\"keeps has one that is not in needs\"");
        LockRooms room = new LockRooms();
        CHECK.due("all of all", room.lock(4095, 4095, 1, false, false), 0);
        CHECK.due("none of all", room.lock(4095, 0, 1, false, false), 1);
        CHECK.due("none of none", room.lock(0, 0, 1, false, false), 2);
        CHECK.due("one of two", room.lock(5, 4, 1, false, false), 3);
        CHECK.due("what it keeps", room.ofLock(3, 1), 4);
        int[][] wrongs = {{0, 1}, {4094, 1}, {2047, 2048}, {5, 2}, {5, 7}, {4095, 4096}, {4095, -1},
            {4095, Integer.MIN_VALUE}, {0, Integer.MIN_VALUE}, {4095, Integer.MAX_VALUE}};
        for (int[] wrong : wrongs) {
            CHECK.throwsArgument("keeps " + wrong[1] + " of " + wrong[0], room,
                () -> room.lock(wrong[0], wrong[1], 1, false, true));
        }
    }

    private static void hardRange() {
        CHECK.promise("\"hard is not 1 to 60\"");
        LockRooms room = new LockRooms();
        CHECK.due("1", room.lock(0, 0, 1, false, false), 0);
        CHECK.due("60", room.lock(0, 0, 60, false, false), 1);
        CHECK.due("the first", room.ofLock(0, 2), 1);
        CHECK.due("the second", room.ofLock(1, 2), 60);
        for (int wrong : new int[] {0, -1, 61, Integer.MIN_VALUE, Integer.MAX_VALUE}) {
            CHECK.throwsArgument("hard " + wrong, room, () -> room.lock(0, 0, wrong, false, true));
        }
    }

    private static void lockAtFirst() {
        CHECK.promise("\"OPEN or not (not at first), WORK (0 at first), HINTS (0), WEAR (0), BROKEN or not\"");
        LockRooms room = new LockRooms();
        room.power(false);
        room.lock(1, 1, 7, true, true);
        long[] due = {1, 1, 7, 1, 0, 0, 0, 0, 0, 0};
        for (int what = 0; what <= 9; what++) {
            CHECK.due("ofLock(0, " + what + "), told without power", room.ofLock(0, what), due[what]);
        }
    }

    private static void exitToldLast() {
        CHECK.promise("\"the EXIT (the one that was told so last; NONE at first)\"");
        LockRooms room = new LockRooms();
        room.lock(0, 0, 1, false, false);
        CHECK.due("none told", room.many(11), -1);
        room.lock(0, 0, 1, false, true);
        CHECK.due("one told", room.many(11), 1);
        room.lock(0, 0, 5, false, true);
        room.lock(0, 0, 1, false, false);
        CHECK.due("told last", room.many(11), 2);
        room.player(9);
        room.begin();
        CHECK.due("the former one opens", room.pass(2), 2);
        CHECK.due("that ends nothing", room.many(4), 1);
        CHECK.due("the exit opens", room.pass(1), 1);
        CHECK.due("that ends it", room.many(6), 1);
        room.player(1);
        CHECK.throwsState("begin, as it is open", room, () -> room.begin());
        room.lock(0, 0, 1, false, true);
        CHECK.due("begin, as another is the exit", room.begin(), 1);
    }

    private static void twelveThings() {
        CHECK.promise("\"THINGS: at most 12, numbered from 0\"");
        LockRooms room = new LockRooms();
        for (int k = 0; k < 12; k++) {
            CHECK.due("number", room.thing(-1, k % 10), k);
        }
        CHECK.throwsState("a thirteenth", room, () -> room.thing(-1, 0));
        CHECK.due("how many", room.many(2), 12);
        CHECK.due("the last", room.ofThing(11, 1), 1);
        CHECK.throwsIndex("thing 12", room, () -> room.ofThing(12, 1));
    }

    private static void thingPlace() {
        CHECK.promise("\"place is not NONE, and there is no such LOCK\"");
        LockRooms room = new LockRooms();
        CHECK.throwsIndex("0 as there are no locks", room, () -> room.thing(0, 0));
        CHECK.due("none", room.thing(-1, 0), 0);
        room.lock(0, 0, 1, false, false);
        room.lock(0, 0, 1, false, false);
        CHECK.due("the first lock", room.thing(0, 0), 1);
        CHECK.due("the last lock", room.thing(1, 0), 2);
        CHECK.due("behind it", room.ofThing(2, 0), 1);
        for (int wrong : new int[] {2, 10, -2, Integer.MIN_VALUE, Integer.MAX_VALUE}) {
            CHECK.throwsIndex("place " + wrong, room, () -> room.thing(wrong, 0));
        }
    }

    private static void hidRange() {
        CHECK.promise("\"hid is not 0 to 9\"");
        LockRooms room = new LockRooms();
        CHECK.due("0", room.thing(-1, 0), 0);
        CHECK.due("9", room.thing(-1, 9), 1);
        CHECK.due("the first", room.ofThing(0, 1), 0);
        CHECK.due("the second", room.ofThing(1, 1), 9);
        for (int wrong : new int[] {-1, 10, Integer.MIN_VALUE, Integer.MAX_VALUE}) {
            CHECK.throwsArgument("hid " + wrong, room, () -> room.thing(-1, wrong));
        }
    }

    private static void thingAtFirst() {
        CHECK.promise("\"SEARCHED (0 at first), and a state: 0 it lies in its PLACE (at first)\"");
        LockRooms room = new LockRooms();
        room.thing(-1, 0);
        room.player(9);
        room.begin();
        room.pass(1);
        room.stop();
        room.thing(-1, 0);
        CHECK.due("searched", room.ofThing(1, 2), 0);
        CHECK.due("state", room.ofThing(1, 3), 0);
        CHECK.due("needed by none", room.ofThing(1, 5), 0);
    }

    private static void reached() {
        CHECK.promise("\"One that lies can be REACHED, if its PLACE is in the open, or behind a LOCK that is OPEN.\"");
        LockRooms room = new LockRooms();
        room.lock(1, 1, 1, false, false);
        room.lock(2048, 0, 1, true, false);
        room.thing(-1, 0);
        room.thing(0, 0);
        room.thing(1, 0);
        reachedIs(room, "at first", 1, 0, 0);
        room.player(9);
        room.begin();
        room.pass(1);
        reachedIs(room, "as one is found", 0, 0, 0);
        room.pass(1);
        reachedIs(room, "as one is kept, and lock 0 open", 0, 1, 0);
        room.pass(1);
        room.steal(1);
        reachedIs(room, "as one is stolen", 0, 0, 0);
        room.power(false);
        reachedIs(room, "as lock 1 is open by power", 0, 0, 1);
        room.spare(1);
        reachedIs(room, "as a spare lies there", 0, 1, 1);
        room.stop();
        room.shut(0);
        reachedIs(room, "as lock 0 is shut", 0, 0, 1);
        room.put(0);
        reachedIs(room, "as one is put", 1, 0, 1);
    }

    private static void reachedIs(LockRooms room, String when, int first, int second, int third) {
        CHECK.due("thing 0 " + when, room.ofThing(0, 4), first);
        CHECK.due("thing 1 " + when, room.ofThing(1, 4), second);
        CHECK.due("thing 2 " + when, room.ofThing(2, 4), third);
    }

    private static void ready() {
        CHECK.promise("\"A LOCK is READY, if it is not OPEN, not BROKEN, and all THINGS that it NEEDS are FOUND\"");
        LockRooms room = new LockRooms();
        room.lock(0, 0, 60, true, false);
        room.lock(3, 2, 9, false, false);
        room.thing(-1, 0);
        room.thing(-1, 0);
        CHECK.due("needs none", room.ofLock(0, 9), 1);
        CHECK.due("of things that lie", room.ofLock(1, 9), 0);
        room.breaks(0);
        CHECK.due("broken", room.ofLock(0, 9), 0);
        room.player(9);
        room.begin();
        room.pass(1);
        CHECK.due("with one of two", room.ofLock(1, 9), 0);
        room.pass(1);
        CHECK.due("with both", room.ofLock(1, 9), 1);
        room.steal(0);
        CHECK.due("with one stolen", room.ofLock(1, 9), 0);
        room.spare(0);
        CHECK.due("with one that lies again", room.ofLock(1, 9), 0);
        room.pass(1);
        CHECK.due("with both again", room.ofLock(1, 9), 1);
        room.pass(1);
        CHECK.due("open", room.ofLock(1, 9), 0);
        room.stop();
        room.shut(1);
        CHECK.due("shut, with one kept", room.ofLock(1, 9), 0);
        room.repair(0);
        CHECK.due("repaired", room.ofLock(0, 9), 1);
        room.power(false);
        CHECK.due("open by power", room.ofLock(0, 9), 0);
    }

    private static void neverReady() {
        CHECK.promise("\"(also those that were not told: such a LOCK is never READY)\"");
        LockRooms room = new LockRooms();
        room.lock(2048, 0, 1, false, true);
        room.player(9);
        room.begin();
        for (int k = 0; k < 11; k++) {
            CHECK.due("with " + k + " things", room.ofLock(0, 9), 0);
            room.stop();
            room.thing(-1, 0);
            room.player(9);
            room.begin();
            room.pass(1);
        }
        CHECK.due("with eleven found", room.many(14), 2047);
        CHECK.due("is not ready", room.many(13), 0);
        CHECK.throwsState("a hint", room, () -> room.hint(0));
        CHECK.due("nobody works at it", room.pass(3), 0);
        room.stop();
        room.thing(-1, 0);
        CHECK.due("the twelfth told", room.ofLock(0, 9), 0);
        room.player(9);
        room.begin();
        room.pass(1);
        CHECK.due("the twelfth found", room.ofLock(0, 9), 1);
    }

    private static void opensWithKeeping() {
        CHECK.promise("\"As it OPENS, the THINGS that it KEEPS are KEPT, and its WEAR is 1 more\"");
        LockRooms room = new LockRooms();
        room.lock(15, 5, 9, false, false);
        for (int k = 0; k < 4; k++) {
            room.thing(-1, 0);
        }
        room.player(9);
        room.begin();
        room.pass(4);
        CHECK.due("found", room.many(14), 15);
        CHECK.due("wear", room.ofLock(0, 7), 0);
        CHECK.due("opened", room.pass(1), 1);
        CHECK.due("kept", room.many(15), 5);
        CHECK.due("found still", room.many(14), 10);
        CHECK.due("wear then", room.ofLock(0, 7), 1);
    }

    private static void brokenAtThree() {
        CHECK.promise("\"with a WEAR of 3 it is BROKEN from then on (and stays OPEN)\"");
        LockRooms room = new LockRooms();
        room.lock(0, 0, 1, false, false);
        for (int wear = 1; wear <= 3; wear++) {
            room.player(1);
            room.begin();
            room.pass(1);
            room.stop();
            CHECK.due("wear", room.ofLock(0, 7), wear);
            CHECK.due("broken at " + wear, room.ofLock(0, 8), wear == 3 ? 1 : 0);
            CHECK.due("open at " + wear, room.ofLock(0, 4), 1);
            room.shut(0);
            CHECK.due("wear as it is shut", room.ofLock(0, 7), wear);
        }
        CHECK.due("broken from then on", room.ofLock(0, 8), 1);
        CHECK.due("not ready", room.ofLock(0, 9), 0);
        room.repair(0);
        room.player(1);
        room.begin();
        CHECK.due("opened anew", room.pass(1), 1);
        CHECK.due("wear anew", room.ofLock(0, 7), 1);
        CHECK.due("broken anew", room.ofLock(0, 8), 0);
    }

    private static void sixPlayers() {
        CHECK.promise("\"PLAYERS: at most 6, numbered from 0\"");
        LockRooms room = new LockRooms();
        for (int k = 0; k < 6; k++) {
            CHECK.due("number", room.player(1 + k), k);
        }
        CHECK.throwsState("a seventh", room, () -> room.player(1));
        CHECK.due("how many", room.many(3), 6);
        CHECK.due("the last", room.ofPlayer(5, 0), 6);
        CHECK.throwsIndex("player 6", room, () -> room.ofPlayer(6, 0));
        CHECK.due("all of them begin", room.begin(), 6);
        room.stop();
        for (int k = 0; k < 6; k++) {
            CHECK.due("number as all were gone", room.player(1), k);
        }
    }

    private static void skillRange() {
        CHECK.promise("\"the skill is not 1 to 9\"");
        LockRooms room = new LockRooms();
        CHECK.due("1", room.player(1), 0);
        CHECK.due("9", room.player(9), 1);
        CHECK.due("the first", room.ofPlayer(0, 0), 1);
        CHECK.due("the second", room.ofPlayer(1, 0), 9);
        for (int wrong : new int[] {0, -1, 10, Integer.MIN_VALUE, Integer.MAX_VALUE}) {
            CHECK.throwsArgument("skill " + wrong, room, () -> room.player(wrong));
        }
    }

    private static void notInAGame() {
        CHECK.promise("\"there are 10 (12, 6), or a game runs\"");
        LockRooms room = new LockRooms();
        room.player(5);
        room.begin();
        CHECK.throwsState("a lock", room, () -> room.lock(0, 0, 1, false, true));
        CHECK.throwsState("a thing", room, () -> room.thing(-1, 0));
        CHECK.throwsState("a player", room, () -> room.player(5));
        room.stop();
        CHECK.due("a lock behind it", room.lock(0, 0, 1, false, true), 0);
        CHECK.due("a thing behind it", room.thing(-1, 0), 0);
        CHECK.due("a player behind it", room.player(5), 0);
    }
}
