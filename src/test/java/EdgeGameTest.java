/** Section 2 and promises 5 to 8: a test for each sentence of the document that names an edge. */
public final class EdgeGameTest {
    private static final Check CHECK = new Check();

    public static void main(String[] args) {
        beginOfNone();
        beginTwice();
        beginWithExitOpen();
        beginAnew();
        beginLeavesTheRest();
        coinsForEach();
        minutesRange();
        lastMinute();
        withoutAGame();
        behindTheEnd();
        readyByThen();
        lessThanTwoOthers();
        smallestLock();
        hardOrMore();
        nobodySearched();
        smallestThing();
        aboveHid();
        untoldIsNotSearched();
        idles();
        middleOfAMinute();
        lostAtSixty();
        solvedAtSixty();
        allAreGone();
        halfOfWhatLacks();
        threeHints();
        hintsLastOverGames();
        hintOnlyInAGame();
        scoreWithHints();
        smallestRecord();
        stopTime();
        CHECK.end();
    }

    /** A room whose exit needs nothing and is as hard as that. */
    private static LockRooms plainRoom(int hard) {
        LockRooms room = new LockRooms();
        room.lock(0, 0, hard, false, true);
        return room;
    }

    private static void beginWith(LockRooms room, int... skills) {
        for (int skill : skills) {
            room.player(skill);
        }
        room.begin();
    }

    private static void passTo(LockRooms room, int minute) {
        while (room.many(0) < minute) {
            room.pass(Math.min(90, minute - room.many(0)));
        }
    }

    private static void beginOfNone() {
        CHECK.promise("\"To BEGIN, as no game runs, with one PLAYER at least\"");
        LockRooms room = new LockRooms();
        CHECK.throwsState("of none", room, () -> room.begin());
        room.player(1);
        CHECK.due("of one, without a lock or a thing", room.begin(), 1);
        room.stop();
        CHECK.throwsState("of none, as all are gone", room, () -> room.begin());
    }

    private static void beginTwice() {
        CHECK.promise("\"if one runs\"");
        LockRooms room = plainRoom(60);
        beginWith(room, 1);
        CHECK.throwsState("at once", room, () -> room.begin());
        room.pass(59);
        CHECK.throwsState("at a time of 59", room, () -> room.begin());
        CHECK.due("coins", room.many(9), 18);
    }

    private static void beginWithExitOpen() {
        CHECK.promise("\"or the EXIT is OPEN\"");
        LockRooms room = plainRoom(1);
        room.lock(0, 0, 1, true, false);
        room.power(false);
        beginWith(room, 1);
        CHECK.due("with another lock open", room.pass(1), 1);
        room.player(1);
        CHECK.throwsState("with the exit open", room, () -> room.begin());
        room.shut(0);
        CHECK.due("with the exit shut", room.begin(), 1);
    }

    private static void beginAnew() {
        CHECK.promise("\"TIME is 0\", \"0 as one BEGINS\"");
        LockRooms room = plainRoom(60);
        CHECK.due("time ahead of any", room.many(5), 0);
        CHECK.due("hints ahead of any", room.many(10), 0);
        beginWith(room, 1);
        room.hint(0);
        room.pass(5);
        room.stop();
        room.player(1);
        CHECK.due("time of the latest", room.many(5), 5);
        CHECK.due("hints of the latest", room.many(10), 1);
        room.begin();
        CHECK.due("time as one begins", room.many(5), 0);
        CHECK.due("hints as one begins", room.many(10), 0);
        CHECK.due("now", room.many(0), 5);
    }

    private static void beginLeavesTheRest() {
        CHECK.promise("\"TIME is 0, COINS are 18 more for each PLAYER\", and nothing else is changed");
        LockRooms room = plainRoom(60);
        room.lock(2048, 0, 60, false, false);
        room.thing(-1, 9);
        beginWith(room, 2, 3, 4);
        room.pass(1);
        room.stop();
        room.breaks(1);
        beginWith(room, 1);
        CHECK.due("work of the game before", room.ofLock(0, 5), 5);
        CHECK.due("searched in the game before", room.ofThing(0, 2), 4);
        CHECK.due("broken between them", room.ofLock(1, 8), 1);
        CHECK.due("now", room.many(0), 1);
        CHECK.due("it goes on from there", room.pass(55), 1);
    }

    private static void coinsForEach() {
        CHECK.promise("\"COINS (0 at first; they can be below 0) are 18 more for each PLAYER\"");
        LockRooms room = new LockRooms();
        room.lock(2048, 0, 60, false, false);
        CHECK.due("at first", room.many(9), 0);
        room.breaks(0);
        CHECK.due("below 0", room.repair(0), -60);
        beginWith(room, 1);
        CHECK.due("below 0 with one player", room.many(9), -42);
        room.stop();
        beginWith(room, 1, 2, 3, 4, 5, 6);
        CHECK.due("with six players more", room.many(9), 66);
    }

    private static void minutesRange() {
        CHECK.promise("\"minutes is not 1 to 90\"");
        LockRooms room = new LockRooms();
        for (int wrong : new int[] {0, -1, 91, Integer.MIN_VALUE, Integer.MAX_VALUE}) {
            CHECK.throwsArgument("minutes " + wrong, room, () -> room.pass(wrong));
        }
        CHECK.due("1", room.pass(1), 0);
        CHECK.due("now", room.many(0), 1);
        CHECK.due("90", room.pass(90), 0);
        CHECK.due("now then", room.many(0), 91);
    }

    private static void lastMinute() {
        CHECK.promise("\"NOW is a minute (0 at first, 9999 at most)\", \"if NOW would be above 9999\"");
        LockRooms room = plainRoom(60);
        passTo(room, 9910);
        CHECK.throwsState("90 at 9910", room, () -> room.pass(90));
        CHECK.due("89 at 9910", room.pass(89), 0);
        CHECK.due("now", room.many(0), 9999);
        CHECK.throwsState("1 at 9999", room, () -> room.pass(1));
        LockRooms played = plainRoom(60);
        passTo(played, 9909);
        beginWith(played, 6);
        CHECK.due("90 at 9909, of which 10 are played", played.pass(90), 1);
        CHECK.due("now as it was played", played.many(0), 9999);
        played.player(1);
        LockRooms late = plainRoom(60);
        passTo(late, 9998);
        beginWith(late, 9);
        CHECK.throwsState("2 at 9998 in a game", late, () -> late.pass(2));
        late.pass(1);
        CHECK.throwsState("1 at 9999 in a game", late, () -> late.pass(1));
        CHECK.due("a hint at 9999", late.hint(0), 34);
        CHECK.due("stop at 9999", late.stop(), 1);
    }

    private static void withoutAGame() {
        CHECK.promise("\"NOW is 1 more. If a game runs, ..\"");
        LockRooms room = plainRoom(1);
        room.thing(-1, 0);
        room.player(9);
        CHECK.due("opened", room.pass(60), 0);
        CHECK.due("now", room.many(0), 60);
        CHECK.due("time", room.many(5), 0);
        CHECK.due("work", room.ofLock(0, 5), 0);
        CHECK.due("searched", room.ofThing(0, 2), 0);
        CHECK.due("idled", room.many(18), 0);
        CHECK.due("players", room.many(3), 1);
        CHECK.due("lost", room.many(7), 0);
    }

    private static void behindTheEnd() {
        CHECK.promise("\"minutes: how many\", as the game ends before they have gone by");
        LockRooms room = plainRoom(4);
        room.lock(0, 0, 1, false, false);
        beginWith(room, 2);
        CHECK.due("opened", room.pass(90), 1);
        CHECK.due("now", room.many(0), 90);
        CHECK.due("time", room.many(5), 2);
        CHECK.due("nobody works on", room.ofLock(1, 5), 0);
        room.shut(0);
        room.breaks(0);
        room.breaks(1);
        beginWith(room, 2);
        CHECK.due("opened as it is lost", room.pass(90), 0);
        CHECK.due("now as it is lost", room.many(0), 181);
        CHECK.due("time as it is lost", room.many(5), 60);
        CHECK.due("idled until then", room.many(18), 60);
    }

    private static void readyByThen() {
        CHECK.promise("\"of the LOCKS that are READY as it is by then\"");
        LockRooms room = new LockRooms();
        room.lock(1, 0, 9, false, false);
        room.thing(-1, 0);
        beginWith(room, 1, 2);
        room.pass(1);
        CHECK.due("the first found it", room.ofPlayer(0, 2), 0);
        CHECK.due("the second works in the same minute", room.ofPlayer(1, 1), 0);
        LockRooms kept = new LockRooms();
        kept.lock(1, 1, 1, false, false);
        kept.lock(1, 0, 60, false, false);
        kept.thing(-1, 0);
        beginWith(kept, 1, 1, 1);
        kept.pass(1);
        CHECK.due("the second opens a lock", kept.ofPlayer(1, 1), 0);
        CHECK.due("what it keeps is gone for the third", kept.ofPlayer(2, 1), -1);
        CHECK.due("who idled", kept.ofPlayer(2, 3), 1);
        CHECK.due("all three in one minute", kept.many(0), 1);
    }

    private static void lessThanTwoOthers() {
        CHECK.promise("\"at which less than two others worked in this minute\"");
        LockRooms room = plainRoom(60);
        beginWith(room, 1, 2, 4);
        room.pass(1);
        CHECK.due("work of two", room.ofLock(0, 5), 3);
        CHECK.due("the second", room.ofPlayer(1, 1), 0);
        CHECK.due("the third", room.ofPlayer(2, 1), -1);
        CHECK.due("the third idled", room.ofPlayer(2, 3), 1);
        room.pass(1);
        CHECK.due("two again in the next minute", room.ofLock(0, 5), 6);
        room.stop();
        room.lock(0, 0, 60, false, false);
        beginWith(room, 1, 1, 3, 5, 8);
        room.pass(1);
        CHECK.due("two at the first", room.ofLock(0, 5), 8);
        CHECK.due("two at the second", room.ofLock(1, 5), 8);
        CHECK.due("the fifth", room.ofPlayer(4, 3), 1);
    }

    private static void smallestLock() {
        CHECK.promise("\"at that with the smallest number\"");
        LockRooms room = new LockRooms();
        room.lock(2048, 0, 60, false, false);
        room.lock(0, 0, 60, false, false);
        room.lock(0, 0, 1, false, true);
        room.thing(-1, 0);
        beginWith(room, 1);
        room.pass(2);
        CHECK.due("the smallest that is ready", room.ofLock(1, 5), 2);
        CHECK.due("not the next", room.ofLock(2, 5), 0);
        CHECK.due("no thing beside it", room.ofThing(0, 2), 0);
        CHECK.due("at which lock", room.ofPlayer(0, 1), 1);
        CHECK.due("at which thing", room.ofPlayer(0, 2), -1);
    }

    private static void hardOrMore() {
        CHECK.promise("\"WORK is SKILL more; if that is HARD or more, it OPENS\"");
        LockRooms room = plainRoom(12);
        beginWith(room, 4);
        CHECK.due("8 of 12", room.pass(2), 0);
        CHECK.due("open", room.ofLock(0, 4), 0);
        CHECK.due("12 of 12", room.pass(1), 1);
        CHECK.due("work", room.ofLock(0, 5), 12);
        LockRooms more = plainRoom(11);
        beginWith(more, 6);
        CHECK.due("12 of 11", more.pass(2), 1);
        CHECK.due("work beyond hard", more.ofLock(0, 5), 12);
        LockRooms less = plainRoom(13);
        beginWith(less, 6);
        CHECK.due("12 of 13", less.pass(2), 0);
        CHECK.due("1 of 1 at once", openedAtOnce(1, 1), 1);
        CHECK.due("9 of 10 at once", openedAtOnce(9, 10), 0);
    }

    private static int openedAtOnce(int skill, int hard) {
        LockRooms room = plainRoom(hard);
        beginWith(room, skill);
        return room.pass(1);
    }

    private static void nobodySearched() {
        CHECK.promise("\"that nobody searched in this minute\"");
        LockRooms room = new LockRooms();
        room.thing(-1, 9);
        room.thing(-1, 9);
        beginWith(room, 1, 2, 4);
        room.pass(1);
        CHECK.due("by the first alone", room.ofThing(0, 2), 1);
        CHECK.due("by the second alone", room.ofThing(1, 2), 2);
        CHECK.due("the third idled", room.ofPlayer(2, 3), 1);
        room.pass(1);
        CHECK.due("again in the next minute", room.ofThing(0, 2), 2);
        CHECK.due("the other again", room.ofThing(1, 2), 4);
    }

    private static void smallestThing() {
        CHECK.promise("\"of the THINGS that can be REACHED .. that with the smallest number\"");
        LockRooms room = new LockRooms();
        room.lock(2048, 0, 60, false, false);
        room.thing(0, 0);
        room.thing(-1, 9);
        room.thing(-1, 0);
        beginWith(room, 5);
        room.pass(1);
        CHECK.due("not behind a lock", room.ofThing(0, 2), 0);
        CHECK.due("the smallest in the open", room.ofThing(1, 2), 5);
        CHECK.due("not the next", room.ofThing(2, 2), 0);
        CHECK.due("which thing", room.ofPlayer(0, 2), 1);
    }

    private static void aboveHid() {
        CHECK.promise("\"SEARCHED is SKILL more; if that is above HID, it is FOUND\"");
        for (int skill = 1; skill <= 9; skill++) {
            LockRooms room = new LockRooms();
            room.thing(-1, skill);
            beginWith(room, skill);
            room.pass(1);
            CHECK.due("as much as it is hid", room.ofThing(0, 3), 0);
            room.pass(1);
            CHECK.due("above that", room.ofThing(0, 3), 1);
            CHECK.due("searched", room.ofThing(0, 2), 2 * skill);
        }
        LockRooms open = new LockRooms();
        open.thing(-1, 0);
        beginWith(open, 1);
        open.pass(1);
        CHECK.due("hid by 0", open.ofThing(0, 3), 1);
    }

    private static void untoldIsNotSearched() {
        CHECK.promise("\"(3) Without one it IDLES\", as no more things were told");
        LockRooms room = new LockRooms();
        room.lock(0, 0, 1, false, false);
        room.thing(0, 0);
        beginWith(room, 1);
        CHECK.due("opened", room.pass(1), 1);
        room.pass(2);
        CHECK.due("no thing", room.ofPlayer(0, 2), -1);
        CHECK.due("no lock", room.ofPlayer(0, 1), -1);
        CHECK.due("idled", room.ofPlayer(0, 3), 1);
        room.stop();
        room.thing(0, 9);
        CHECK.due("told later", room.ofThing(1, 2), 0);
    }

    private static void idles() {
        CHECK.promise("\"(3) Without one it IDLES\"");
        LockRooms room = new LockRooms();
        beginWith(room, 1, 9);
        room.pass(59);
        CHECK.due("the first", room.ofPlayer(0, 3), 59);
        CHECK.due("the second", room.ofPlayer(1, 3), 59);
        CHECK.due("ever", room.many(18), 118);
        room.pass(1);
        CHECK.due("ever, the last minute counted", room.many(18), 120);
        beginWith(room, 5);
        CHECK.due("in this game", room.ofPlayer(0, 3), 0);
        room.pass(1);
        CHECK.due("in this game then", room.ofPlayer(0, 3), 1);
        CHECK.due("ever then", room.many(18), 121);
    }

    private static void middleOfAMinute() {
        CHECK.promise("\"As soon as the EXIT is OPEN (also in the middle of a minute), the game ends, SOLVED\"");
        LockRooms room = plainRoom(2);
        room.lock(0, 0, 1, false, false);
        room.thing(-1, 9);
        beginWith(room, 1, 1, 1, 1, 1);
        CHECK.due("opened", room.pass(1), 1);
        CHECK.due("time", room.many(5), 1);
        CHECK.due("solved", room.many(6), 1);
        CHECK.due("the third had no turn", room.ofLock(1, 5), 0);
        CHECK.due("nor had the fourth", room.ofThing(0, 2), 0);
        CHECK.due("nor had the fifth", room.many(18), 0);
        room.shut(0);
        beginWith(room, 9);
        CHECK.due("the first alone", room.pass(1), 1);
        CHECK.due("solved twice", room.many(6), 2);
    }

    private static void lostAtSixty() {
        CHECK.promise("\"at a TIME of 60 behind that minute it ends, LOST\"");
        LockRooms room = new LockRooms();
        room.lock(0, 0, 60, false, false);
        beginWith(room, 1);
        CHECK.due("opened before", room.pass(59), 0);
        CHECK.due("runs at 59", room.many(4), 1);
        CHECK.due("opened in that minute", room.pass(1), 1);
        CHECK.due("runs at 60", room.many(4), 0);
        CHECK.due("time", room.many(5), 60);
        CHECK.due("lost", room.many(7), 1);
        CHECK.due("solved", room.many(6), 0);
        CHECK.throwsState("stop behind it", room, () -> room.stop());
    }

    private static void solvedAtSixty() {
        CHECK.promise("\"at a TIME of 60 behind that minute\", as the EXIT is OPEN in it");
        LockRooms room = plainRoom(60);
        beginWith(room, 1);
        CHECK.due("opened", room.pass(60), 1);
        CHECK.due("solved", room.many(6), 1);
        CHECK.due("lost", room.many(7), 0);
        CHECK.due("record", room.many(8), 60);
    }

    private static void allAreGone() {
        CHECK.promise("\"All PLAYERS are gone then (and whenever a game ends)\"");
        LockRooms room = new LockRooms();
        room.lock(0, 0, 1, true, true);
        beginWith(room, 1, 1);
        room.pass(1);
        goneIs(room, "solved");
        room.shut(0);
        room.breaks(0);
        beginWith(room, 1, 1);
        room.pass(60);
        goneIs(room, "lost at 60");
        beginWith(room, 1, 1);
        room.stop();
        goneIs(room, "stopped");
        beginWith(room, 1, 1);
        room.power(false);
        goneIs(room, "lost by power");
        CHECK.due("games lost", room.many(7), 3);
    }

    private static void goneIs(LockRooms room, String when) {
        CHECK.due("runs as it is " + when, room.many(4), 0);
        CHECK.due("players as it is " + when, room.many(3), 0);
        CHECK.throwsIndex("player 0 as it is " + when, room, () -> room.ofPlayer(0, 0));
        CHECK.throwsState("begin as it is " + when, room, () -> room.begin());
    }

    private static void halfOfWhatLacks() {
        CHECK.promise("\"its WORK is half of what lacks to HARD, rounded down, more\"");
        LockRooms room = new LockRooms();
        int[] hards = {60, 59, 1, 2, 3};
        int[] works = {30, 29, 0, 1, 1};
        for (int hard : hards) {
            room.lock(0, 0, hard, false, false);
        }
        beginWith(room, 1);
        for (int k = 0; k < hards.length; k++) {
            CHECK.due("first for hard " + hards[k], room.hint(k), works[k]);
        }
        CHECK.due("half of 30", room.hint(0), 45);
        CHECK.due("half of 30 rounded down", room.hint(1), 44);
        CHECK.due("half of 1", room.hint(3), 1);
        CHECK.due("half of 1 once more", room.hint(3), 1);
        CHECK.due("half of 15", room.hint(0), 52);
        CHECK.due("it opens none", room.many(12), 0);
        CHECK.due("minutes", room.many(0), 0);
    }

    private static void threeHints() {
        CHECK.promise("\"and has less than 3 HINTS\", \"it has 3 HINTS\"");
        LockRooms room = plainRoom(60);
        room.lock(0, 0, 60, false, false);
        beginWith(room, 1);
        for (int hints = 1; hints <= 3; hints++) {
            room.hint(0);
            CHECK.due("hints", room.ofLock(0, 6), hints);
        }
        CHECK.throwsState("a fourth", room, () -> room.hint(0));
        CHECK.due("one for another lock", room.hint(1), 30);
        CHECK.due("in this game", room.many(10), 4);
    }

    private static void hintsLastOverGames() {
        CHECK.promise("\"as it is READY, and has less than 3 HINTS\", given in an earlier game");
        LockRooms room = plainRoom(60);
        beginWith(room, 1);
        room.hint(0);
        room.hint(0);
        room.stop();
        beginWith(room, 1);
        CHECK.due("the third", room.hint(0), 52);
        CHECK.throwsState("a fourth", room, () -> room.hint(0));
        CHECK.due("in this game", room.many(10), 1);
        CHECK.due("solved", room.pass(8), 1);
        room.shut(0);
        CHECK.due("hints as it was shut", room.ofLock(0, 6), 0);
        beginWith(room, 1);
        CHECK.due("one as it was shut", room.hint(0), 30);
    }

    private static void hintOnlyInAGame() {
        CHECK.promise("\"if no game runs, it is not READY\"");
        LockRooms room = new LockRooms();
        CHECK.throwsIndex("lock 0 of none", room, () -> room.hint(0));
        room.lock(0, 0, 20, true, false);
        room.lock(1, 0, 20, false, true);
        CHECK.throwsState("ahead of a game", room, () -> room.hint(0));
        beginWith(room, 1);
        CHECK.throwsIndex("lock 2 of two", room, () -> room.hint(2));
        CHECK.throwsIndex("lock -1", room, () -> room.hint(-1));
        CHECK.throwsState("one that is not ready", room, () -> room.hint(1));
        CHECK.due("one that is ready", room.hint(0), 10);
        room.breaks(0);
        CHECK.throwsState("one that is broken", room, () -> room.hint(0));
        room.repair(0);
        room.power(false);
        CHECK.throwsState("one that is open", room, () -> room.hint(0));
        room.stop();
        room.power(true);
        room.shut(0);
        CHECK.throwsState("behind a game", room, () -> room.hint(0));
    }

    private static void scoreWithHints() {
        CHECK.promise("\"The SCORE of a game that was SOLVED is TIME, and 2 for each HINT that was given in it\"");
        LockRooms room = plainRoom(8);
        room.lock(0, 0, 60, false, false);
        beginWith(room, 4);
        room.hint(1);
        room.hint(1);
        room.stop();
        beginWith(room, 4);
        room.pass(2);
        CHECK.due("without those of a game before", room.many(8), 2);
        room.shut(0);
        beginWith(room, 1);
        room.hint(0);
        room.hint(1);
        CHECK.due("opened", room.pass(4), 1);
        CHECK.due("with one for a lock that stays shut", room.meanScore(), 5.0);
    }

    private static void smallestRecord() {
        CHECK.promise("\"The RECORD is the smallest SCORE (NONE at first)\"");
        LockRooms room = plainRoom(9);
        CHECK.due("at first", room.many(8), -1);
        beginWith(room, 1);
        room.stop();
        CHECK.due("as one was lost", room.many(8), -1);
        int[] skills = {3, 3, 1, 5, 9, 9, 4};
        int[] records = {3, 3, 3, 2, 1, 1, 1};
        for (int k = 0; k < skills.length; k++) {
            beginWith(room, skills[k]);
            room.pass(9);
            CHECK.due("with a skill of " + skills[k], room.many(8), records[k]);
            room.shut(0);
            if (room.ofLock(0, 8) == 1) {
                room.repair(0);
            }
        }
        CHECK.due("solved", room.many(6), 7);
    }

    private static void stopTime() {
        CHECK.promise("\"Ends a game that runs; it is LOST. Returns its TIME.\"");
        LockRooms room = plainRoom(60);
        CHECK.throwsState("without any", room, () -> room.stop());
        beginWith(room, 1);
        CHECK.due("at once", room.stop(), 0);
        CHECK.throwsState("once more", room, () -> room.stop());
        beginWith(room, 1);
        room.pass(59);
        CHECK.due("at 59", room.stop(), 59);
        CHECK.due("time", room.many(5), 59);
        CHECK.due("lost", room.many(7), 2);
        CHECK.due("solved", room.many(6), 0);
        room.pass(1);
        CHECK.due("time stays", room.many(5), 59);
    }
}
