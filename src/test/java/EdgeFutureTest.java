import java.math.BigInteger;

/** Section 5 and promises 21 to 28: a test for each sentence of the document that names an edge. */
public final class EdgeFutureTest {
    private static final Check CHECK = new Check();

    public static void main(String[] args) {
        emptyRoom();
        fullOfStands();
        thisOneCounted();
        thereAlready();
        withoutAnExit();
        exitIsNoDeadEnd();
        deadEndsByKeeping();
        deadEndByOrder();
        notBroken();
        needsFoundOrLying();
        behindAnOpenLock();
        stolenIsNotAtHand();
        keptBefore();
        keptSince();
        whatDoesNotMatter();
        depthIsLeast();
        depthOfTen();
        missNothing();
        missAll();
        missOneOfEachState();
        bestAlsoWithThreeHints();
        bestWithoutAGame();
        bestOfSeveral();
        bestWithExitOpen();
        bestOfNone();
        endsAtWithoutAGame();
        endsAtLost();
        endsAtSixty();
        endsAtBeyondTheLastMinute();
        endsAtAskedAgain();
        nothingIsChanged();
        digestStart();
        digestWraps();
        CHECK.end();
    }

    private static void beginWith(LockRooms room, int... skills) {
        for (int skill : skills) {
            room.player(skill);
        }
        room.begin();
    }

    private static void futureIs(LockRooms room, String when, int stands, int deadEnds, int depth) {
        CHECK.due("canEnd() " + when, room.canEnd(), depth != -1);
        CHECK.due("stands() " + when, room.stands(), stands);
        CHECK.due("deadEnds() " + when, room.deadEnds(), deadEnds);
        CHECK.due("depth() " + when, room.depth(), depth);
    }

    /** Lock k needs thing k, which lies behind lock k - 1; the exit is the last. */
    private static LockRooms chain(int locks) {
        LockRooms room = new LockRooms();
        for (int k = 0; k < locks; k++) {
            room.lock(1 << k, 0, 9, false, k == locks - 1);
        }
        for (int k = 0; k < locks; k++) {
            room.thing(k - 1, 0);
        }
        return room;
    }

    private static void emptyRoom() {
        CHECK.promise("section 5, of an empty room");
        LockRooms room = new LockRooms();
        futureIs(room, "of nothing", 1, 1, -1);
        CHECK.due("cannotMiss()", room.cannotMiss(), 0);
        CHECK.due("bestHint()", room.bestHint(), -1);
        CHECK.due("endsAt()", room.endsAt(), -1);
    }

    private static void fullOfStands() {
        CHECK.promise("\"how many STANDS can be come to\", of ten locks");
        LockRooms room = new LockRooms();
        for (int k = 0; k < 10; k++) {
            room.lock(0, 0, 1, k == 0, k == 9);
        }
        futureIs(room, "of all sets", 1024, 0, 1);
        room.power(false);
        futureIs(room, "of half of them", 512, 0, 1);
        room.breaks(9);
        futureIs(room, "as the exit is broken", 256, 256, -1);
    }

    private static void thisOneCounted() {
        CHECK.promise("\"this one counted\"");
        LockRooms room = new LockRooms();
        room.lock(2048, 0, 1, false, true);
        CHECK.due("none beside it", room.stands(), 1);
        room.lock(0, 0, 1, false, false);
        CHECK.due("one beside it", room.stands(), 2);
        beginWith(room, 1);
        room.pass(1);
        CHECK.due("as that is open", room.stands(), 1);
    }

    private static void thereAlready() {
        CHECK.promise("\"(or is there)\", \"(0, if it is)\"");
        LockRooms room = new LockRooms();
        room.lock(2048, 0, 1, true, true);
        futureIs(room, "as it cannot be", 1, 1, -1);
        room.power(false);
        futureIs(room, "as it is open", 1, 0, 0);
        room.breaks(0);
        futureIs(room, "as it is open and broken", 1, 0, 0);
    }

    private static void withoutAnExit() {
        CHECK.promise("\"Without an EXIT each one is.\"");
        LockRooms room = new LockRooms();
        for (int k = 0; k < 3; k++) {
            room.lock(0, 0, 1, false, false);
        }
        futureIs(room, "of eight", 8, 8, -1);
        CHECK.due("cannotMiss()", room.cannotMiss(), 0);
        CHECK.due("bestHint()", room.bestHint(), -1);
        beginWith(room, 9, 9, 9);
        room.pass(1);
        room.pass(1);
        CHECK.due("endsAt()", room.endsAt(), -1);
        futureIs(room, "as all are open", 1, 1, -1);
    }

    private static void exitIsNoDeadEnd() {
        CHECK.promise("\"A STAND is a DEAD END, if the EXIT is not in it, and from it none with the EXIT ..\"");
        LockRooms room = new LockRooms();
        room.lock(1, 1, 1, false, true);
        room.lock(1, 1, 1, false, false);
        room.thing(-1, 0);
        futureIs(room, "of the exit, or another", 3, 1, 1);
        beginWith(room, 1);
        room.pass(2);
        CHECK.due("solved", room.many(6), 1);
        futureIs(room, "in the exit, with nothing behind it", 1, 0, 0);
    }

    /** Of three ways the last is a dead end, and what comes behind it too. */
    private static void deadEndsByKeeping() {
        CHECK.promise("\"how many of these are DEAD ENDS\"");
        LockRooms room = new LockRooms();
        room.lock(1, 0, 1, false, false);
        room.lock(3, 0, 1, false, true);
        room.lock(2, 2, 1, false, false);
        room.lock(0, 0, 1, false, false);
        room.thing(-1, 9);
        room.thing(-1, 9);
        // Locks 0 and 3 at will, 1 and 2 in this order alone: 4 with neither, 4 with 1, 4 with both, 4 with 2 alone.
        futureIs(room, "by keeping", 16, 4, 1);
    }

    /**
     * A lock that cannot be opened any more in one order can be open in another: with the giver first, and then the
     * keeper, the exit can be come to; with the keeper first, it cannot. Each lock is each of the three in turn.
     */
    private static void deadEndByOrder() {
        CHECK.promise("\"and from it none with the EXIT can be come to\", but by another order of OPENING");
        for (int giver = 0; giver < 10; giver++) {
            for (int keeper = 0; keeper < 10; keeper++) {
                int exit = giver == 9 || keeper == 9 ? (giver == 8 || keeper == 8 ? 7 : 8) : 9;
                if (giver != keeper) {
                    String when = "of giver " + giver + " and keeper " + keeper;
                    futureIs(orderedRoom(giver, keeper, exit), when, 6, 1, 2);
                }
            }
        }
        futureIs(orderedRoom(2, 1, 0), "as lock 0 is the exit", 6, 1, 2);
    }

    /** The exit needs thing 1, which lies behind the giver; giver and keeper need thing 0, which the keeper keeps. */
    private static LockRooms orderedRoom(int giver, int keeper, int exit) {
        LockRooms room = new LockRooms();
        for (int k = 0; k < 10; k++) {
            int needs = k == exit ? 2 : k == giver || k == keeper ? 1 : 2048;
            room.lock(needs, k == keeper ? 1 : 0, 9, false, k == exit);
        }
        room.thing(-1, 0);
        room.thing(giver, 0);
        return room;
    }

    private static void notBroken() {
        CHECK.promise("\"one that is not OPEN, not BROKEN\"");
        LockRooms room = chain(3);
        futureIs(room, "of a chain", 4, 0, 3);
        room.breaks(2);
        futureIs(room, "as the last is broken", 3, 3, -1);
        room.breaks(0);
        futureIs(room, "as the first is broken too", 1, 1, -1);
        room.repair(2);
        futureIs(room, "as the last is repaired", 1, 1, -1);
        room.repair(0);
        futureIs(room, "as all are repaired", 4, 0, 3);
        beginWith(room, 9);
        room.pass(2);
        room.breaks(0);
        futureIs(room, "as one that is open is broken", 3, 0, 2);
    }

    private static void needsFoundOrLying() {
        CHECK.promise("\"THINGS that are FOUND, and those that lie in the open\"");
        LockRooms room = new LockRooms();
        room.lock(7, 0, 1, false, true);
        room.thing(-1, 9);
        room.thing(-1, 9);
        futureIs(room, "as one was not told", 1, 1, -1);
        room.thing(-1, 9);
        futureIs(room, "as all lie", 2, 0, 1);
        beginWith(room, 9);
        room.pass(2);
        CHECK.due("found", room.many(14), 1);
        futureIs(room, "as one is found", 2, 0, 1);
        room.pass(4);
        CHECK.due("all found", room.many(14), 7);
        futureIs(room, "as all are found", 2, 0, 1);
    }

    private static void behindAnOpenLock() {
        CHECK.promise("\"or behind a LOCK of the STAND\"");
        LockRooms room = new LockRooms();
        room.lock(2048, 0, 1, true, false);
        room.lock(1, 0, 1, false, true);
        room.thing(0, 0);
        futureIs(room, "as it is shut", 1, 1, -1);
        room.power(false);
        futureIs(room, "as it is open", 2, 0, 1);
        LockRooms itself = new LockRooms();
        itself.lock(1, 0, 1, false, true);
        itself.thing(0, 0);
        futureIs(itself, "behind itself", 1, 1, -1);
        LockRooms ring = new LockRooms();
        ring.lock(1, 0, 1, false, false);
        ring.lock(2, 0, 1, false, true);
        ring.thing(1, 0);
        ring.thing(0, 0);
        futureIs(ring, "behind each other", 1, 1, -1);
    }

    private static void stolenIsNotAtHand() {
        CHECK.promise("\"all of whose NEEDS are at hand\", as one is STOLEN");
        LockRooms room = new LockRooms();
        room.lock(1, 0, 60, false, true);
        room.thing(-1, 0);
        beginWith(room, 1);
        room.pass(1);
        futureIs(room, "as it is found", 2, 0, 1);
        room.steal(0);
        futureIs(room, "as it is stolen", 1, 1, -1);
        room.spare(0);
        futureIs(room, "as a spare lies there", 2, 0, 1);
    }

    private static void keptBefore() {
        CHECK.promise("\"(with THINGS as they are)\", as one is KEPT");
        LockRooms room = new LockRooms();
        room.lock(1, 1, 1, false, false);
        room.lock(1, 0, 1, false, true);
        room.thing(-1, 0);
        beginWith(room, 1);
        room.pass(2);
        futureIs(room, "as it is kept", 1, 1, -1);
        room.stop();
        room.shut(0);
        futureIs(room, "as it is kept, and the lock shut", 1, 1, -1);
        room.put(0);
        futureIs(room, "as it was put", 4, 1, 1);
        LockRooms open = new LockRooms();
        open.lock(1, 1, 1, true, false);
        open.lock(1, 0, 1, false, true);
        open.thing(-1, 0);
        open.power(false);
        futureIs(open, "as the lock that keeps it is open by power", 2, 0, 1);
    }

    private static void keptSince() {
        CHECK.promise("\"but none that was KEPT by a LOCK that OPENED since\"");
        LockRooms room = new LockRooms();
        room.lock(1, 1, 1, false, false);
        room.lock(1, 1, 1, false, false);
        room.lock(3, 3, 1, false, true);
        room.thing(-1, 9);
        room.thing(-1, 9);
        // None, or one of the three alone: each keeps what the others need.
        futureIs(room, "by one of three", 4, 2, 1);
        LockRooms found = new LockRooms();
        found.lock(1, 1, 60, false, false);
        found.lock(1, 0, 60, false, true);
        found.thing(-1, 0);
        beginWith(found, 1);
        found.pass(1);
        futureIs(found, "as it is found", 4, 1, 1);
    }

    private static void whatDoesNotMatter() {
        CHECK.promise("\"(HID, WORK and minutes do not matter, nor does the EXIT end it.)\"");
        LockRooms room = new LockRooms();
        room.lock(0, 0, 60, false, true);
        room.lock(1, 0, 60, false, false);
        room.thing(0, 9);
        futureIs(room, "behind the exit", 3, 0, 1);
        beginWith(room, 1);
        room.pass(59);
        CHECK.due("work", room.ofLock(0, 5), 59);
        futureIs(room, "with work", 3, 0, 1);
        room.stop();
        while (room.many(0) < 9999) {
            room.pass(Math.min(90, 9999 - room.many(0)));
        }
        futureIs(room, "in the last minute", 3, 0, 1);
        room.power(false);
        futureIs(room, "without power", 3, 0, 1);
    }

    private static void depthIsLeast() {
        CHECK.promise("\"the least number of LOCKS that have to be OPENED from now on until the EXIT is\"");
        LockRooms room = new LockRooms();
        room.lock(0, 0, 1, false, false);
        room.lock(1, 0, 1, false, false);
        room.lock(2, 0, 1, false, false);
        room.lock(0, 0, 1, false, false);
        room.lock(4, 0, 1, false, true);
        room.thing(0, 0);
        room.thing(1, 0);
        room.thing(2, 0);
        CHECK.due("by the long way", room.depth(), 4);
        LockRooms near = new LockRooms();
        near.lock(1, 0, 1, false, false);
        near.lock(0, 0, 1, false, false);
        near.lock(2, 0, 1, false, true);
        near.thing(-1, 0);
        near.thing(1, 0);
        CHECK.due("not with the lock beside it", near.depth(), 2);
    }

    private static void depthOfTen() {
        CHECK.promise("\"depth\", of ten locks, and \"NONE, if that cannot be\"");
        LockRooms room = chain(10);
        futureIs(room, "of ten", 11, 0, 10);
        room.breaks(5);
        futureIs(room, "as one in between is broken", 6, 6, -1);
    }

    private static void missNothing() {
        CHECK.promise("\"(0, if it cannot be)\"");
        LockRooms room = chain(3);
        CHECK.due("as it can be", room.cannotMiss(), 7);
        room.breaks(2);
        CHECK.due("as it cannot be", room.cannotMiss(), 0);
        LockRooms open = new LockRooms();
        open.lock(1, 0, 1, true, true);
        open.thing(-1, 0);
        CHECK.due("as it is shut", open.cannotMiss(), 1);
        open.power(false);
        CHECK.due("as it is open", open.cannotMiss(), 0);
        LockRooms free = new LockRooms();
        free.lock(0, 0, 1, false, true);
        free.thing(-1, 0);
        CHECK.due("as it needs nothing", free.cannotMiss(), 0);
    }

    private static void missAll() {
        CHECK.promise("\"the set of THINGS without which (as if it was STOLEN) the EXIT could not be come to\"");
        LockRooms room = new LockRooms();
        room.lock(4095, 4095, 1, false, true);
        for (int k = 0; k < 12; k++) {
            room.thing(-1, 9);
        }
        CHECK.due("all twelve", room.cannotMiss(), 4095);
        LockRooms either = new LockRooms();
        either.lock(1, 0, 1, false, false);
        either.lock(2, 0, 1, false, false);
        either.lock(4, 0, 1, false, true);
        either.thing(-1, 0);
        either.thing(-1, 0);
        either.thing(0, 0);
        CHECK.due("those on the way alone", either.cannotMiss(), 5);
    }

    private static void missOneOfEachState() {
        CHECK.promise("\"though it can be now\", with THINGS in each state");
        LockRooms room = new LockRooms();
        room.lock(1, 1, 9, false, false);
        room.lock(10, 0, 9, false, true);
        room.thing(-1, 0);
        room.thing(-1, 0);
        room.thing(-1, 0);
        room.thing(0, 9);
        beginWith(room, 9);
        room.pass(4);
        CHECK.due("kept", room.many(15), 1);
        CHECK.due("found", room.many(14), 6);
        CHECK.due("one found and one that lies", room.cannotMiss(), 10);
        room.steal(2);
        CHECK.due("not one that is stolen already", room.cannotMiss(), 10);
        room.steal(1);
        CHECK.due("none, as it cannot be", room.cannotMiss(), 0);
    }

    private static void bestAlsoWithThreeHints() {
        CHECK.promise("\"the READY LOCK (also one with 3 HINTS\"");
        LockRooms room = new LockRooms();
        room.lock(0, 0, 60, false, true);
        beginWith(room, 1);
        for (int k = 0; k < 3; k++) {
            room.hint(0);
        }
        CHECK.due("with 3", room.bestHint(), 0);
        CHECK.throwsState("a fourth", room, () -> room.hint(0));
    }

    private static void bestWithoutAGame() {
        CHECK.promise("\"also without a game)\"");
        LockRooms room = chain(2);
        CHECK.due("none is ready as its thing lies", room.bestHint(), -1);
        beginWith(room, 9);
        room.pass(1);
        CHECK.due("in a game", room.bestHint(), 0);
        room.stop();
        CHECK.due("without one", room.bestHint(), 0);
    }

    private static void bestOfSeveral() {
        CHECK.promise("\"the least number of LOCKS would have to be OPENED yet; of several the smallest number\"");
        LockRooms room = new LockRooms();
        room.lock(1, 0, 60, false, false);
        room.lock(0, 0, 60, false, false);
        room.lock(0, 0, 60, false, false);
        room.lock(0, 0, 60, false, false);
        room.lock(2, 0, 60, false, true);
        room.thing(-1, 0);
        room.thing(2, 0);
        CHECK.due("the one on the way", room.bestHint(), 2);
        room.thing(-1, 0);
        room.lock(4, 0, 60, false, true);
        CHECK.due("of several that help nothing", room.bestHint(), 1);
        room.lock(0, 0, 60, false, true);
        CHECK.due("the exit itself", room.bestHint(), 6);
    }

    private static void bestWithExitOpen() {
        CHECK.promise("\"(so, with the EXIT OPEN, the smallest READY one)\"");
        LockRooms room = new LockRooms();
        room.lock(0, 0, 60, true, true);
        room.lock(2048, 0, 60, false, false);
        room.lock(0, 0, 60, false, false);
        room.lock(0, 0, 60, false, false);
        CHECK.due("as it is shut", room.bestHint(), 0);
        room.power(false);
        CHECK.due("as it is open", room.bestHint(), 2);
        room.breaks(2);
        CHECK.due("as that is broken", room.bestHint(), 3);
        room.breaks(3);
        CHECK.due("as none is ready", room.bestHint(), -1);
    }

    private static void bestOfNone() {
        CHECK.promise("\"NONE, if there is none by which the EXIT can be come to\"");
        LockRooms room = new LockRooms();
        room.lock(1, 1, 60, false, false);
        room.lock(1, 0, 60, false, true);
        room.thing(-1, 0);
        beginWith(room, 1);
        room.pass(1);
        CHECK.due("the exit", room.bestHint(), 1);
        room.breaks(1);
        CHECK.due("none but one that keeps its thing", room.bestHint(), -1);
        LockRooms lying = new LockRooms();
        lying.lock(1, 0, 60, false, true);
        lying.thing(-1, 0);
        CHECK.due("it can be come to", lying.depth(), 1);
        CHECK.due("but none is ready", lying.bestHint(), -1);
        LockRooms keeper = new LockRooms();
        keeper.lock(1, 1, 60, false, false);
        keeper.lock(3, 0, 60, false, true);
        keeper.thing(-1, 0);
        keeper.thing(-1, 9);
        beginWith(keeper, 1);
        keeper.pass(1);
        CHECK.due("the only ready one", keeper.many(13), 1);
        CHECK.due("keeps what the exit needs", keeper.bestHint(), -1);
        CHECK.due("though the exit can be come to", keeper.depth(), 1);
    }

    private static void endsAtWithoutAGame() {
        CHECK.promise("\"NONE, if .. none runs\"");
        LockRooms room = chain(2);
        CHECK.due("of no players", room.endsAt(), -1);
        room.player(9);
        CHECK.due("as it did not begin", room.endsAt(), -1);
        room.begin();
        CHECK.due("as it runs", room.endsAt(), 4);
        room.stop();
        CHECK.due("as it was stopped", room.endsAt(), -1);
        beginWith(room, 9);
        room.pass(4);
        CHECK.due("solved", room.many(6), 1);
        CHECK.due("as it was solved", room.endsAt(), -1);
    }

    private static void endsAtLost() {
        CHECK.promise("\"NONE, if it would be LOST\"");
        LockRooms room = new LockRooms();
        room.lock(2048, 0, 1, false, true);
        beginWith(room, 9);
        CHECK.due("of an exit that is never ready", room.endsAt(), -1);
        room.pass(59);
        CHECK.due("in the last minute", room.endsAt(), -1);
        LockRooms solved = new LockRooms();
        solved.lock(0, 0, 1, false, true);
        beginWith(solved, 1);
        solved.pass(1);
        solved.shut(0);
        solved.breaks(0);
        beginWith(solved, 1);
        CHECK.due("behind one that was solved", solved.endsAt(), -1);
    }

    private static void endsAtSixty() {
        CHECK.promise("\"at which TIME the game that runs would end SOLVED\", at 60");
        LockRooms room = new LockRooms();
        room.lock(0, 0, 60, false, true);
        beginWith(room, 1);
        CHECK.due("in the last minute", room.endsAt(), 60);
        room.pass(59);
        CHECK.due("at 59", room.endsAt(), 60);
        room.stop();
        room.lock(1, 0, 60, false, true);
        room.thing(-1, 0);
        room.breaks(0);
        beginWith(room, 1);
        CHECK.due("a minute behind that", room.endsAt(), -1);
        room.pass(1);
        room.hint(1);
        CHECK.due("with a hint", room.endsAt(), 31);
    }

    private static void endsAtBeyondTheLastMinute() {
        CHECK.promise("\"(also beyond NOW 9999)\"");
        LockRooms room = new LockRooms();
        room.lock(0, 0, 60, false, true);
        for (int k = 0; k < 111; k++) {
            room.pass(90);
        }
        room.pass(9);
        CHECK.due("now", room.many(0), 9999);
        beginWith(room, 2);
        CHECK.due("at 9999", room.endsAt(), 30);
        CHECK.throwsState("a minute", room, () -> room.pass(1));
    }

    private static void endsAtAskedAgain() {
        CHECK.promise("\"if nothing else was done\", from how all stands as it is asked");
        LockRooms room = new LockRooms();
        room.lock(1, 1, 4, false, false);
        room.lock(2, 0, 10, false, true);
        room.thing(-1, 6);
        room.thing(0, 9);
        beginWith(room, 4);
        // Thing 0 is found at 2, lock 0 opens at 3, thing 1 is found at 6, and the exit opens at 9.
        for (int minute = 0; minute < 9; minute++) {
            CHECK.due("at " + minute, room.endsAt(), 9);
            CHECK.due("once more at " + minute, room.endsAt(), 9);
            room.pass(1);
        }
        CHECK.due("time", room.many(5), 9);
        CHECK.due("solved", room.many(6), 1);
        room.shut(0);
        room.put(1);
        room.shut(1);
        beginWith(room, 9);
        CHECK.due("lost, as thing 0 is kept", room.endsAt(), -1);
        room.stop();
        room.put(0);
        beginWith(room, 9);
        CHECK.due("of another game", room.endsAt(), 6);
    }

    private static void nothingIsChanged() {
        CHECK.promise("\"what would be (nothing is changed)\"");
        LockRooms asked = chain(4);
        LockRooms other = chain(4);
        beginWith(asked, 2, 3);
        beginWith(other, 2, 3);
        for (int minute = 1; minute <= 14; minute++) {
            asked.canEnd();
            asked.stands();
            asked.deadEnds();
            asked.depth();
            asked.cannotMiss();
            asked.bestHint();
            asked.endsAt();
            asked.digest();
            CHECK.due("opened in minute " + minute, asked.pass(1), other.pass(1));
            CHECK.due("now in minute " + minute, asked.many(0), other.many(0));
            CHECK.due("digest in minute " + minute, asked.digest(), other.digest());
            CHECK.due("mean in minute " + minute, asked.meanScore(), other.meanScore());
        }
        CHECK.due("solved", asked.many(6), 1);
    }

    private static void digestStart() {
        CHECK.promise("\"A number d starts with 9102\"");
        // The 26 numbers of an empty room: all 0 but these.
        long d = 9102;
        for (int place = 0; place < 26; place++) {
            int value = 0;
            if (place == 8 || place == 11 || place == 22 || place == 24 || place == 25) {
                value = -1;
            } else if (place == 17 || place == 20 || place == 21) {
                value = 1;
            }
            d = d * 31 + value;
        }
        CHECK.due("of an empty room", new LockRooms().digest(), d);
    }

    private static void digestWraps() {
        CHECK.promise("\"which wraps around as a 64-bit integer\"");
        LockRooms room = chain(10);
        beginWith(room, 1, 2, 3, 4, 5, 6);
        room.pass(2);
        BigInteger d = BigInteger.valueOf(9102);
        for (int what = 0; what <= 18; what++) {
            d = mix(d, room.many(what));
        }
        for (int k = 0; k < 10; k++) {
            for (int what = 0; what <= 9; what++) {
                d = mix(d, room.ofLock(k, what));
            }
        }
        for (int k = 0; k < 10; k++) {
            for (int what = 0; what <= 5; what++) {
                d = mix(d, room.ofThing(k, what));
            }
        }
        for (int k = 0; k < 6; k++) {
            for (int what = 0; what <= 3; what++) {
                d = mix(d, room.ofPlayer(k, what));
            }
        }
        d = mix(mix(mix(d, room.canEnd() ? 1 : 0), room.stands()), room.deadEnds());
        d = mix(mix(mix(mix(d, room.depth()), room.cannotMiss()), room.bestHint()), room.endsAt());
        CHECK.due("beyond 64 bits", d.bitLength() > 64, true);
        CHECK.due("its last 64 bits", room.digest(), d.longValue());
    }

    private static BigInteger mix(BigInteger d, int value) {
        return d.multiply(BigInteger.valueOf(31)).add(BigInteger.valueOf(value));
    }
}
