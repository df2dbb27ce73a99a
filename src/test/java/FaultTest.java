/** Promises 9 to 15: faults, and order. */
public final class FaultTest {
    private static final Check CHECK = new Check();

    public static void main(String[] args) {
        steal();
        spare();
        breaks();
        repair();
        power();
        powerOfExit();
        put();
        shut();
        tooLate();
        CHECK.end();
    }

    /** A room in whose game the things 0 and 1 were found, and lock 0 kept thing 0. */
    private static LockRooms playedRoom() {
        LockRooms room = new LockRooms();
        room.lock(3, 1, 9, false, false);
        room.lock(4, 0, 20, true, true);
        room.thing(-1, 0);
        room.thing(-1, 3);
        room.thing(0, 9);
        room.player(9);
        room.begin();
        room.pass(3);
        return room;
    }

    private static void steal() {
        CHECK.promise("Promise 9: steal");
        LockRooms room = playedRoom();
        CHECK.throwsIndex("3 of 3", room, () -> room.steal(3));
        CHECK.throwsIndex("-1", room, () -> room.steal(-1));
        CHECK.throwsState("one that is kept", room, () -> room.steal(0));
        CHECK.throwsState("one that lies", room, () -> room.steal(2));
        CHECK.due("one that is found", room.steal(1), 1);
        CHECK.due("state", room.ofThing(1, 3), 3);
        CHECK.due("searched", room.ofThing(1, 2), 9);
        CHECK.due("stolen", room.many(16), 2);
        CHECK.due("found", room.many(14), 0);
        CHECK.throwsState("one that is stolen", room, () -> room.steal(1));
        room.pass(2);
        CHECK.due("another", room.steal(2), 2);
        CHECK.due("both", room.many(16), 6);
        CHECK.throwsIndex("of none", new LockRooms(), () -> new LockRooms().steal(0));
        LockRooms ended = playedRoom();
        ended.stop();
        CHECK.due("without a game", ended.steal(1), 1);
    }

    private static void spare() {
        CHECK.promise("Promise 10: spare");
        LockRooms room = playedRoom();
        CHECK.throwsIndex("3 of 3", room, () -> room.spare(3));
        CHECK.throwsIndex("-1", room, () -> room.spare(-1));
        CHECK.throwsState("of one that is kept", room, () -> room.spare(0));
        CHECK.throwsState("of one that is found", room, () -> room.spare(1));
        CHECK.throwsState("of one that lies", room, () -> room.spare(2));
        room.steal(1);
        CHECK.due("coins", room.spare(1), 3);
        CHECK.due("state", room.ofThing(1, 3), 0);
        CHECK.due("searched", room.ofThing(1, 2), 0);
        CHECK.due("reached", room.ofThing(1, 4), 1);
        room.pass(1);
        room.steal(1);
        CHECK.due("coins below 0", room.spare(1), -12);
        CHECK.due("many(9)", room.many(9), -12);
        CHECK.due("now", room.many(0), 4);
    }

    private static void breaks() {
        CHECK.promise("Promise 11: breaks");
        LockRooms room = playedRoom();
        CHECK.throwsIndex("2 of 2", room, () -> room.breaks(2));
        CHECK.throwsIndex("-1", room, () -> room.breaks(-1));
        CHECK.due("one that is open", room.breaks(0), 1);
        CHECK.due("broken", room.ofLock(0, 8), 1);
        CHECK.due("open", room.ofLock(0, 4), 1);
        CHECK.due("wear", room.ofLock(0, 7), 1);
        CHECK.throwsState("once more", room, () -> room.breaks(0));
        room.pass(2);
        CHECK.due("ready", room.many(13), 2);
        CHECK.due("one that is ready", room.breaks(1), 0);
        CHECK.due("not ready", room.many(13), 0);
        room.pass(9);
        CHECK.due("not worked at", room.ofLock(1, 5), 0);
    }

    private static void repair() {
        CHECK.promise("Promise 12: repair");
        LockRooms room = playedRoom();
        CHECK.throwsIndex("2 of 2", room, () -> room.repair(2));
        CHECK.throwsIndex("-1", room, () -> room.repair(-1));
        CHECK.throwsState("one that is not broken", room, () -> room.repair(0));
        room.breaks(0);
        CHECK.due("coins", room.repair(0), 9);
        CHECK.due("broken", room.ofLock(0, 8), 0);
        CHECK.due("wear", room.ofLock(0, 7), 0);
        CHECK.due("open", room.ofLock(0, 4), 1);
        CHECK.throwsState("once more", room, () -> room.repair(0));
        room.breaks(1);
        CHECK.due("coins below 0", room.repair(1), -11);
        CHECK.due("many(9)", room.many(9), -11);
    }

    private static void power() {
        CHECK.promise("Promise 13: power");
        LockRooms room = new LockRooms();
        room.lock(1, 1, 9, true, false);
        room.lock(0, 0, 9, false, true);
        room.lock(2, 2, 9, true, false);
        room.thing(-1, 0);
        room.thing(0, 0);
        room.player(9);
        room.begin();
        CHECK.due("on as it is on", room.power(true), 0);
        room.pass(1);
        CHECK.due("solved", room.many(6), 1);
        room.shut(1);
        room.breaks(2);
        room.player(9);
        room.begin();
        room.breaks(1);
        room.pass(1);
        CHECK.due("ready", room.many(13), 1);
        CHECK.due("cut", room.power(false), 5);
        CHECK.due("power", room.many(17), 0);
        CHECK.due("open", room.many(12), 5);
        CHECK.due("still runs", room.many(4), 1);
        CHECK.due("nothing kept", room.many(15), 0);
        CHECK.due("no wear", room.ofLock(0, 7), 0);
        CHECK.due("no work", room.ofLock(0, 5), 0);
        CHECK.due("a broken one stays so", room.ofLock(2, 8), 1);
        CHECK.due("cut as it is cut", room.power(false), 0);
        room.stop();
        room.lock(0, 0, 9, true, false);
        CHECK.due("not open at first", room.ofLock(3, 4), 0);
        CHECK.due("cut as it is cut, with one more", room.power(false), 0);
        CHECK.due("on", room.power(true), 0);
        CHECK.due("power again", room.many(17), 1);
        CHECK.due("open still", room.many(12), 5);
        CHECK.due("cut again", room.power(false), 8);
        CHECK.due("lost by that", room.many(7), 1);
    }

    private static void powerOfExit() {
        CHECK.promise("Promise 13: power");
        LockRooms room = new LockRooms();
        room.lock(0, 0, 9, true, true);
        room.player(3);
        room.begin();
        room.pass(2);
        CHECK.due("cut", room.power(false), 1);
        CHECK.due("runs", room.many(4), 0);
        CHECK.due("solved", room.many(6), 0);
        CHECK.due("lost", room.many(7), 1);
        CHECK.due("players", room.many(3), 0);
        CHECK.due("record", room.many(8), -1);
        CHECK.due("work stays", room.ofLock(0, 5), 6);
        room.power(true);
        CHECK.due("work before it was shut", room.shut(0), 6);
        CHECK.due("cut without a game", room.power(false), 1);
        CHECK.due("lost still", room.many(7), 1);
    }

    private static void put() {
        CHECK.promise("Promise 14: put");
        LockRooms room = playedRoom();
        CHECK.throwsState("in a game", room, () -> room.put(1));
        CHECK.throwsIndex("3 of 3, in a game", room, () -> room.put(3));
        room.stop();
        CHECK.throwsIndex("3 of 3", room, () -> room.put(3));
        CHECK.throwsIndex("-1", room, () -> room.put(-1));
        CHECK.throwsState("one that lies", room, () -> room.put(2));
        CHECK.due("one that is kept", room.put(0), 2);
        CHECK.due("state", room.ofThing(0, 3), 0);
        CHECK.due("searched", room.ofThing(0, 2), 0);
        CHECK.due("now", room.many(0), 4);
        CHECK.due("one that is found", room.put(1), 1);
        CHECK.due("state then", room.ofThing(1, 3), 0);
        CHECK.due("searched then", room.ofThing(1, 2), 0);
        CHECK.due("now then", room.many(0), 5);
        CHECK.due("time", room.many(5), 3);
        CHECK.throwsState("once more", room, () -> room.put(1));
        LockRooms other = playedRoom();
        other.steal(1);
        other.stop();
        CHECK.throwsState("one that is stolen", other, () -> other.put(1));
    }

    private static void shut() {
        CHECK.promise("Promise 15: shut");
        LockRooms room = playedRoom();
        CHECK.throwsState("in a game", room, () -> room.shut(0));
        CHECK.throwsIndex("2 of 2, in a game", room, () -> room.shut(2));
        room.pass(1);
        room.power(false);
        CHECK.throwsIndex("2 of 2", room, () -> room.shut(2));
        CHECK.throwsIndex("-1", room, () -> room.shut(-1));
        CHECK.throwsState("a magnet without power", room, () -> room.shut(1));
        CHECK.due("another without power", room.shut(0), 9);
        CHECK.due("open", room.many(12), 2);
        CHECK.due("work", room.ofLock(0, 5), 0);
        CHECK.due("wear", room.ofLock(0, 7), 1);
        CHECK.due("now", room.many(0), 5);
        CHECK.due("kept still", room.many(15), 1);
        CHECK.throwsState("one that is not open", room, () -> room.shut(0));
        room.power(true);
        CHECK.due("a magnet with power", room.shut(1), 0);
        LockRooms broken = playedRoom();
        broken.stop();
        broken.breaks(0);
        CHECK.due("one that is broken", broken.shut(0), 9);
        CHECK.due("broken still", broken.ofLock(0, 8), 1);
    }

    private static void tooLate() {
        CHECK.promise("Promises 14 and 15: put and shut, too late");
        LockRooms room = playedRoom();
        room.stop();
        for (int k = 0; k < 111; k++) {
            room.pass(90);
        }
        room.pass(4);
        CHECK.due("at 9997", room.put(0), 2);
        CHECK.due("at 9998", room.shut(0), 9);
        CHECK.due("now", room.many(0), 9999);
        CHECK.throwsState("put at 9999", room, () -> room.put(1));
        room.power(false);
        room.power(true);
        CHECK.throwsState("shut at 9999", room, () -> room.shut(1));
        CHECK.throwsIndex("put of none at 9999", room, () -> room.put(3));
        CHECK.throwsIndex("shut of none at 9999", room, () -> room.shut(2));
    }
}
