/** Sections 3 and 4 and promises 9 to 15: a test for each sentence of the document that names an edge. */
public final class EdgeFaultTest {
    private static final Check CHECK = new Check();

    public static void main(String[] args) {
        noSuchThing();
        noSuchLock();
        stealFound();
        howManyAreStolen();
        spareOfStolen();
        spareCost();
        breaksOnce();
        breaksLeavesWear();
        repairBroken();
        repairCost();
        repairLeavesTheRest();
        powerAtFirst();
        cutWhileOn();
        cutOfShutMagnets();
        cutWithoutKeeping();
        cutOfExit();
        cutOfExitThatIsOpen();
        cutOfAll();
        noPowerNoShut();
        putFoundOrKept();
        putSearched();
        putLate();
        shutOpen();
        shutAnew();
        shutLate();
        notInAGame();
        CHECK.end();
    }

    private static void beginWith(LockRooms room, int... skills) {
        for (int skill : skills) {
            room.player(skill);
        }
        room.begin();
    }

    private static void passTo(LockRooms room, int minute) {
        while (room.many(0) < minute) {
            room.pass(Math.min(90, minute - room.many(0)));
        }
    }

    /** Thing 0 is kept by lock 0, thing 1 is found, thing 2 lies; the game runs. */
    private static LockRooms playedRoom() {
        LockRooms room = new LockRooms();
        room.lock(1, 1, 9, false, false);
        room.lock(2048, 0, 9, true, true);
        room.thing(-1, 0);
        room.thing(-1, 0);
        room.thing(1, 5);
        beginWith(room, 9);
        room.pass(3);
        return room;
    }

    private static void noSuchThing() {
        CHECK.promise("\"if there is no such THING\"");
        LockRooms empty = new LockRooms();
        LockRooms room = playedRoom();
        for (int wrong : new int[] {3, -1, 12, Integer.MIN_VALUE, Integer.MAX_VALUE}) {
            CHECK.throwsIndex("steal " + wrong, room, () -> room.steal(wrong));
            CHECK.throwsIndex("spare " + wrong, room, () -> room.spare(wrong));
            CHECK.throwsIndex("put " + wrong, room, () -> room.put(wrong));
        }
        CHECK.throwsIndex("steal 0 of none", empty, () -> empty.steal(0));
        CHECK.throwsIndex("spare 0 of none", empty, () -> empty.spare(0));
        CHECK.throwsIndex("put 0 of none", empty, () -> empty.put(0));
    }

    private static void noSuchLock() {
        CHECK.promise("\"if there is no such LOCK\"");
        LockRooms empty = new LockRooms();
        LockRooms room = playedRoom();
        for (int wrong : new int[] {2, -1, 10, Integer.MIN_VALUE, Integer.MAX_VALUE}) {
            CHECK.throwsIndex("hint " + wrong, room, () -> room.hint(wrong));
            CHECK.throwsIndex("breaks " + wrong, room, () -> room.breaks(wrong));
            CHECK.throwsIndex("repair " + wrong, room, () -> room.repair(wrong));
            CHECK.throwsIndex("shut " + wrong, room, () -> room.shut(wrong));
        }
        CHECK.throwsIndex("hint 0 of none", empty, () -> empty.hint(0));
        CHECK.throwsIndex("breaks 0 of none", empty, () -> empty.breaks(0));
        CHECK.throwsIndex("repair 0 of none", empty, () -> empty.repair(0));
        CHECK.throwsIndex("shut 0 of none", empty, () -> empty.shut(0));
    }

    private static void stealFound() {
        CHECK.promise("\"A THING that is FOUND can be STOLEN\", \"if it is not FOUND\"");
        LockRooms room = playedRoom();
        CHECK.throwsState("one that is kept", room, () -> room.steal(0));
        CHECK.throwsState("one that lies", room, () -> room.steal(2));
        CHECK.due("one that is found", room.steal(1), 1);
        CHECK.due("its state", room.ofThing(1, 3), 3);
        CHECK.throwsState("one that is stolen", room, () -> room.steal(1));
        room.stop();
        LockRooms ended = playedRoom();
        ended.stop();
        CHECK.due("without a game", ended.steal(1), 1);
        CHECK.due("now stays", ended.many(0), 3);
    }

    private static void howManyAreStolen() {
        CHECK.promise("\"Returns how many are STOLEN then.\"");
        LockRooms room = new LockRooms();
        for (int k = 0; k < 12; k++) {
            room.thing(-1, 0);
        }
        beginWith(room, 1, 1, 1, 1, 1, 1);
        room.pass(2);
        for (int k = 0; k < 12; k++) {
            CHECK.due("with one more", room.steal(11 - k), k + 1);
        }
        CHECK.due("all of them", room.many(16), 4095);
        CHECK.due("none is found", room.many(14), 0);
        room.spare(3);
        room.pass(1);
        CHECK.due("again", room.steal(3), 12);
    }

    private static void spareOfStolen() {
        CHECK.promise("\"a SPARE of one that is STOLEN lies in its PLACE then (SEARCHED 0)\", \"if it is not STOLEN\"");
        LockRooms room = playedRoom();
        CHECK.throwsState("of one that is kept", room, () -> room.spare(0));
        CHECK.throwsState("of one that is found", room, () -> room.spare(1));
        CHECK.throwsState("of one that lies", room, () -> room.spare(2));
        room.steal(1);
        CHECK.due("searched before", room.ofThing(1, 2), 9);
        room.spare(1);
        CHECK.due("state", room.ofThing(1, 3), 0);
        CHECK.due("searched", room.ofThing(1, 2), 0);
        CHECK.due("place", room.ofThing(1, 0), -1);
        CHECK.throwsState("once more", room, () -> room.spare(1));
        room.pass(1);
        room.steal(1);
        room.stop();
        CHECK.due("without a game", room.spare(1), -12);
        CHECK.due("now stays", room.many(0), 4);
    }

    private static void spareCost() {
        CHECK.promise("\"for 15 COINS\"");
        LockRooms room = playedRoom();
        int coins = 18;
        for (int k = 0; k < 3; k++) {
            room.steal(1);
            coins -= 15;
            CHECK.due("coins then", room.spare(1), coins);
            CHECK.due("many(9)", room.many(9), coins);
            room.pass(1);
        }
    }

    private static void breaksOnce() {
        CHECK.promise("\"A LOCK can be broken\", \"if it is BROKEN\"");
        LockRooms room = playedRoom();
        CHECK.due("one that is open", room.breaks(0), 1);
        CHECK.due("open still", room.ofLock(0, 4), 1);
        CHECK.due("broken", room.ofLock(0, 8), 1);
        CHECK.throwsState("once more", room, () -> room.breaks(0));
        CHECK.due("one that is not open", room.breaks(1), 0);
        CHECK.throwsState("that once more", room, () -> room.breaks(1));
        LockRooms worn = wornRoom();
        CHECK.throwsState("one that was worn out", worn, () -> worn.breaks(0));
    }

    /** A room whose lock 0 was opened three times, and is open. */
    private static LockRooms wornRoom() {
        LockRooms room = new LockRooms();
        room.lock(0, 0, 7, false, false);
        for (int k = 0; k < 3; k++) {
            if (k > 0) {
                room.shut(0);
            }
            beginWith(room, 7);
            room.pass(1);
            room.stop();
        }
        return room;
    }

    private static void breaksLeavesWear() {
        CHECK.promise("\"A LOCK breaks. Returns its WEAR.\"");
        LockRooms room = playedRoom();
        CHECK.due("without wear", room.breaks(1), 0);
        CHECK.due("wear", room.ofLock(1, 7), 0);
        CHECK.due("with a wear of 1", room.breaks(0), 1);
        CHECK.due("wear of that", room.ofLock(0, 7), 1);
        CHECK.due("work of that", room.ofLock(0, 5), 9);
    }

    private static void repairBroken() {
        CHECK.promise("\"if it is not BROKEN\", \"WEAR is 0\"");
        LockRooms room = wornRoom();
        CHECK.due("wear before", room.ofLock(0, 7), 3);
        CHECK.due("broken before", room.ofLock(0, 8), 1);
        room.repair(0);
        CHECK.due("wear", room.ofLock(0, 7), 0);
        CHECK.due("broken", room.ofLock(0, 8), 0);
        CHECK.due("open still", room.ofLock(0, 4), 1);
        CHECK.throwsState("once more", room, () -> room.repair(0));
        room.lock(0, 0, 1, false, false);
        CHECK.throwsState("one that never broke", room, () -> room.repair(1));
    }

    private static void repairCost() {
        CHECK.promise("\"to REPAIR one that is BROKEN costs its HARD in COINS\"");
        LockRooms room = new LockRooms();
        room.lock(0, 0, 1, false, false);
        room.lock(0, 0, 60, false, false);
        room.breaks(0);
        room.breaks(1);
        CHECK.due("of hard 1", room.repair(0), -1);
        CHECK.due("of hard 60", room.repair(1), -61);
        CHECK.due("many(9)", room.many(9), -61);
        CHECK.due("now stays", room.many(0), 0);
    }

    private static void repairLeavesTheRest() {
        CHECK.promise("\"WEAR is 0\", and WORK and HINTS stay");
        LockRooms room = new LockRooms();
        room.lock(0, 0, 60, false, true);
        beginWith(room, 5);
        room.pass(2);
        room.hint(0);
        room.breaks(0);
        CHECK.due("work as it is broken", room.ofLock(0, 5), 35);
        room.repair(0);
        CHECK.due("work as it is repaired", room.ofLock(0, 5), 35);
        CHECK.due("hints as it is repaired", room.ofLock(0, 6), 1);
        CHECK.due("ready again", room.ofLock(0, 9), 1);
        CHECK.due("it goes on from there", room.pass(5), 1);
    }

    private static void powerAtFirst() {
        CHECK.promise("\"POWER is on at first\"");
        LockRooms room = new LockRooms();
        CHECK.due("on", room.many(17), 1);
        CHECK.due("on as it is on", room.power(true), 0);
        CHECK.due("on still", room.many(17), 1);
        CHECK.due("cut in an empty room", room.power(false), 0);
        CHECK.due("off", room.many(17), 0);
    }

    private static void cutWhileOn() {
        CHECK.promise("\"As it is cut (while it was on)\"");
        LockRooms room = new LockRooms();
        room.lock(0, 0, 9, true, true);
        CHECK.due("on as it is on", room.power(true), 0);
        CHECK.due("open", room.many(12), 0);
        CHECK.due("cut", room.power(false), 1);
        room.lock(0, 0, 9, true, false);
        CHECK.due("cut as it is off", room.power(false), 0);
        CHECK.due("the one told since", room.ofLock(1, 4), 0);
        CHECK.due("on", room.power(true), 0);
        CHECK.due("that opens none", room.many(12), 1);
        CHECK.due("cut again", room.power(false), 2);
        CHECK.due("both", room.many(12), 3);
    }

    private static void cutOfShutMagnets() {
        CHECK.promise("\"each LOCK with a MAGNET that is not OPEN is OPEN at once\"");
        LockRooms room = new LockRooms();
        room.lock(0, 0, 9, true, false);
        room.lock(0, 0, 9, false, false);
        room.lock(2048, 0, 9, true, false);
        room.lock(0, 0, 9, true, false);
        room.breaks(3);
        beginWith(room, 9);
        room.pass(1);
        CHECK.due("open by work", room.many(12), 1);
        CHECK.due("the others with a magnet", room.power(false), 12);
        CHECK.due("open then", room.many(12), 13);
        CHECK.due("the broken one stays broken", room.ofLock(3, 8), 1);
        CHECK.due("the game runs", room.many(4), 1);
    }

    private static void cutWithoutKeeping() {
        CHECK.promise("\"without keeping and wear\"");
        LockRooms room = new LockRooms();
        room.lock(1, 1, 60, true, false);
        room.thing(-1, 0);
        beginWith(room, 4);
        room.pass(3);
        room.hint(0);
        CHECK.due("cut", room.power(false), 1);
        CHECK.due("kept", room.many(15), 0);
        CHECK.due("found", room.many(14), 1);
        CHECK.due("wear", room.ofLock(0, 7), 0);
        CHECK.due("work stays", room.ofLock(0, 5), 34);
        CHECK.due("hints stay", room.ofLock(0, 6), 1);
        CHECK.due("pass counts it not", room.pass(1), 0);
    }

    private static void cutOfExit() {
        CHECK.promise("\"if that is the EXIT, a game that runs ends, LOST\"");
        LockRooms room = new LockRooms();
        room.lock(0, 0, 60, true, true);
        CHECK.due("without a game", room.power(false), 1);
        CHECK.due("lost without a game", room.many(7), 0);
        room.power(true);
        room.shut(0);
        beginWith(room, 1);
        room.pass(2);
        CHECK.due("in a game", room.power(false), 1);
        CHECK.due("runs", room.many(4), 0);
        CHECK.due("lost", room.many(7), 1);
        CHECK.due("solved", room.many(6), 0);
        CHECK.due("record", room.many(8), -1);
        CHECK.due("time", room.many(5), 2);
    }

    private static void cutOfExitThatIsOpen() {
        CHECK.promise("\"if that is the EXIT\", and not another one");
        LockRooms room = new LockRooms();
        room.lock(0, 0, 60, false, true);
        room.lock(0, 0, 60, true, false);
        beginWith(room, 1);
        CHECK.due("another", room.power(false), 2);
        CHECK.due("runs", room.many(4), 1);
        LockRooms without = new LockRooms();
        without.lock(0, 0, 60, true, false);
        beginWith(without, 1);
        CHECK.due("without an exit", without.power(false), 1);
        CHECK.due("runs without an exit", without.many(4), 1);
        CHECK.due("lost without an exit", without.many(7), 0);
    }

    private static void cutOfAll() {
        CHECK.promise("\"Returns the set of LOCKS that are OPEN by this call (0, if none).\"");
        LockRooms room = new LockRooms();
        for (int k = 0; k < 10; k++) {
            room.lock(0, 0, 1, true, false);
        }
        CHECK.due("all of ten", room.power(false), 1023);
        room.power(true);
        CHECK.due("none, as all are open", room.power(false), 0);
        room.power(true);
        room.shut(9);
        CHECK.due("the last alone", room.power(false), 512);
    }

    private static void noPowerNoShut() {
        CHECK.promise("\"As long as there is no POWER, such a LOCK cannot be shut\"");
        LockRooms room = new LockRooms();
        room.lock(0, 0, 1, true, false);
        room.lock(0, 0, 1, false, false);
        beginWith(room, 1);
        room.pass(2);
        room.stop();
        room.power(false);
        CHECK.throwsState("a magnet that was open before", room, () -> room.shut(0));
        CHECK.due("one without a magnet", room.shut(1), 1);
        room.power(true);
        CHECK.due("the magnet with power", room.shut(0), 1);
    }

    private static void putFoundOrKept() {
        CHECK.promise("\"to PUT a THING that is FOUND or KEPT\", \"it is neither FOUND nor KEPT\"");
        LockRooms room = playedRoom();
        room.stop();
        CHECK.throwsState("one that lies", room, () -> room.put(2));
        CHECK.due("one that is kept", room.put(0), 2);
        CHECK.due("one that is found", room.put(1), 1);
        CHECK.throwsState("that once more", room, () -> room.put(1));
        CHECK.due("nothing is kept", room.many(15), 0);
        CHECK.due("nothing is found", room.many(14), 0);
        LockRooms stolen = playedRoom();
        stolen.steal(1);
        stolen.stop();
        CHECK.throwsState("one that is stolen", stolen, () -> stolen.put(1));
    }

    private static void putSearched() {
        CHECK.promise("\"it lies in its PLACE, SEARCHED 0; NOW is 1 more\"");
        LockRooms room = playedRoom();
        room.stop();
        room.put(0);
        CHECK.due("now", room.many(0), 4);
        CHECK.due("time stays", room.many(5), 3);
        CHECK.due("searched", room.ofThing(0, 2), 0);
        CHECK.due("state", room.ofThing(0, 3), 0);
        CHECK.due("hid", room.ofThing(0, 1), 0);
    }

    private static void putLate() {
        CHECK.promise("\"put .. or NOW would be above 9999\"");
        LockRooms room = playedRoom();
        room.stop();
        passTo(room, 9998);
        CHECK.due("at 9998", room.put(0), 2);
        CHECK.due("now", room.many(0), 9999);
        CHECK.throwsState("at 9999", room, () -> room.put(1));
    }

    private static void shutOpen() {
        CHECK.promise("\"To SHUT a LOCK that is OPEN\", \"it is not OPEN\"");
        LockRooms room = playedRoom();
        room.stop();
        CHECK.throwsState("one that is not", room, () -> room.shut(1));
        CHECK.due("one that is", room.shut(0), 9);
        CHECK.throwsState("that once more", room, () -> room.shut(0));
        LockRooms worn = wornRoom();
        CHECK.due("one that is broken too", worn.shut(0), 7);
        CHECK.due("broken still", worn.ofLock(0, 8), 1);
    }

    private static void shutAnew() {
        CHECK.promise("\"it is not any more, WORK and HINTS are 0; NOW is 1 more\"");
        LockRooms room = new LockRooms();
        room.lock(1, 1, 9, false, false);
        room.thing(-1, 0);
        beginWith(room, 4);
        room.pass(1);
        room.hint(0);
        room.hint(0);
        CHECK.due("opened", room.pass(1), 1);
        room.stop();
        CHECK.due("work before", room.shut(0), 10);
        CHECK.due("open", room.ofLock(0, 4), 0);
        CHECK.due("work", room.ofLock(0, 5), 0);
        CHECK.due("hints", room.ofLock(0, 6), 0);
        CHECK.due("wear stays", room.ofLock(0, 7), 1);
        CHECK.due("now", room.many(0), 3);
        CHECK.due("time stays", room.many(5), 2);
        CHECK.due("hints of the game stay", room.many(10), 2);
        CHECK.due("what it kept stays kept", room.many(15), 1);
    }

    private static void shutLate() {
        CHECK.promise("\"shut .. or NOW would be above 9999\"");
        LockRooms room = playedRoom();
        room.stop();
        room.power(false);
        room.power(true);
        passTo(room, 9998);
        CHECK.due("at 9998", room.shut(0), 9);
        CHECK.due("now", room.many(0), 9999);
        CHECK.throwsState("at 9999", room, () -> room.shut(1));
    }

    private static void notInAGame() {
        CHECK.promise("\"As no game runs\", \"a game runs\"");
        LockRooms room = playedRoom();
        CHECK.throwsState("put one that is kept", room, () -> room.put(0));
        CHECK.throwsState("put one that is found", room, () -> room.put(1));
        CHECK.throwsState("shut one that is open", room, () -> room.shut(0));
        room.stop();
        CHECK.due("put behind it", room.put(1), 1);
        CHECK.due("shut behind it", room.shut(0), 9);
        CHECK.due("put of what it kept", room.put(0), 2);
    }
}
