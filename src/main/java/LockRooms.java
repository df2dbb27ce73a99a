/**
 * A room to escape from.
 *
 * A set of things, or of locks, is the sum of 2^k for the number k of each.
 */
public final class LockRooms {
    private static final int NONE = -1;

    private static final int MOST_LOCKS = 10;
    private static final int MOST_THINGS = 12;
    private static final int MOST_PLAYERS = 6;
    private static final int ALL_STANDS = 1 << MOST_LOCKS;
    private static final int ALL_THINGS = (1 << MOST_THINGS) - 1;
    private static final int HARDEST = 60;
    private static final int MOST_HID = 9;
    private static final int BEST_SKILL = 9;

    private static final int LAST_NOW = 9999;
    private static final int LONGEST_PASS = 90;
    private static final int LONGEST_GAME = 60;

    private static final int MOST_WORKERS = 2;
    private static final int MOST_HINTS = 3;
    private static final int WORN_OUT = 3;
    private static final int SCORE_OF_HINT = 2;
    private static final int COINS_OF_PLAYER = 18;
    private static final int COINS_OF_SPARE = 15;

    private static final int LIES = 0;
    private static final int FOUND = 1;
    private static final int KEPT = 2;
    private static final int STOLEN = 3;

    private static final int WHATS_OF_LOCK = 10;
    private static final int WHATS_OF_THING = 6;
    private static final int WHATS_OF_PLAYER = 4;
    private static final int WHATS_OF_ROOM = 19;
    private static final long DIGEST_START = 9102;
    private static final int DIGEST_FACTOR = 31;

    private final Room room;
    /** Used again by each endsAt(), which plays the game on in it. */
    private final Room trial;
    private final Stands future;

    /** Creates an empty room. */
    public LockRooms() {
        room = new Room();
        trial = new Room();
        future = new Stands();
    }

    // ---- what is told

    /** Tells a lock; returns its number. */
    public int lock(int needs, int keeps, int hard, boolean isMagnet, boolean isExit)
            throws IllegalArgumentException, IllegalStateException {
        if (needs < 0 || needs > ALL_THINGS || (keeps & ~needs) != 0 || !isWithin(hard, 1, HARDEST)) {
            throw new IllegalArgumentException("no lock needs, keeps or is as hard as that");
        }
        if (room.lockCount >= MOST_LOCKS || room.games.isRunning) {
            throw new IllegalStateException("there are 10 locks, or a game runs");
        }
        return room.addLock(needs, keeps, hard, isMagnet, isExit);
    }

    /** Tells a thing, behind a lock or in the open (-1); returns its number. */
    public int thing(int place, int hid)
            throws IndexOutOfBoundsException, IllegalArgumentException, IllegalStateException {
        if (place != NONE && !room.hasLock(place)) {
            throw new IndexOutOfBoundsException("there is no such lock");
        }
        if (!isWithin(hid, 0, MOST_HID)) {
            throw new IllegalArgumentException("hid is not 0 to 9");
        }
        if (room.thingCount >= MOST_THINGS || room.games.isRunning) {
            throw new IllegalStateException("there are 12 things, or a game runs");
        }
        return room.addThing(place, hid);
    }

    /** Tells a player, who comes; returns the number. */
    public int player(int skill) throws IllegalArgumentException, IllegalStateException {
        if (!isWithin(skill, 1, BEST_SKILL)) {
            throw new IllegalArgumentException("the skill is not 1 to 9");
        }
        if (room.playerCount >= MOST_PLAYERS || room.games.isRunning) {
            throw new IllegalStateException("there are 6 players, or a game runs");
        }
        return room.addPlayer(skill);
    }

    // ---- a game

    /** Begins a game; returns how many players there are. */
    public int begin() throws IllegalStateException {
        if (room.games.isRunning || room.playerCount == 0 || room.isExitOpen()) {
            throw new IllegalStateException("a game runs, there are no players, or the exit is open");
        }
        room.startGame();
        return room.playerCount;
    }

    /** Lets minutes go by; returns how many locks were opened. */
    public int pass(int minutes) throws IllegalArgumentException, IllegalStateException {
        if (!isWithin(minutes, 1, LONGEST_PASS)) {
            throw new IllegalArgumentException("minutes is not 1 to 90");
        }
        if (room.now + minutes > LAST_NOW) {
            throw new IllegalStateException("that would be later than minute 9999");
        }
        int opened = 0;
        for (int k = 0; k < minutes; k++) {
            opened += room.letMinuteGoBy();
        }
        return opened;
    }

    /** Gives a hint for a lock; returns its work then. */
    public int hint(int lock) throws IndexOutOfBoundsException, IllegalStateException {
        if (!room.hasLock(lock)) {
            throw new IndexOutOfBoundsException("there is no such lock");
        }
        Lock hinted = room.locks[lock];
        if (!room.games.isRunning || !hinted.isReady(room.thingsIn(FOUND)) || hinted.hints >= MOST_HINTS) {
            throw new IllegalStateException("no game runs, the lock is not ready, or it has 3 hints");
        }
        room.games.hints++;
        hinted.takeHint();
        return hinted.work;
    }

    /** Ends a game that runs, which is lost; returns its time. */
    public int stop() throws IllegalStateException {
        if (!room.games.isRunning) {
            throw new IllegalStateException("no game runs");
        }
        room.loseGame();
        return room.games.time;
    }

    // ---- faults, and order

    /** A found thing is stolen; returns how many are stolen then. */
    public int steal(int thing) throws IndexOutOfBoundsException, IllegalStateException {
        if (!room.hasThing(thing)) {
            throw new IndexOutOfBoundsException("there is no such thing");
        }
        Thing taken = room.things[thing];
        if (taken.state != FOUND) {
            throw new IllegalStateException("the thing is not found");
        }
        taken.state = STOLEN;
        return Integer.bitCount(room.thingsIn(STOLEN));
    }

    /** A spare of a stolen thing is laid in its place; returns the coins then. */
    public int spare(int thing) throws IndexOutOfBoundsException, IllegalStateException {
        if (!room.hasThing(thing)) {
            throw new IndexOutOfBoundsException("there is no such thing");
        }
        Thing replaced = room.things[thing];
        if (replaced.state != STOLEN) {
            throw new IllegalStateException("the thing is not stolen");
        }
        replaced.layInPlace();
        room.coins -= COINS_OF_SPARE;
        return room.coins;
    }

    /** A lock breaks; returns its wear. */
    public int breaks(int lock) throws IndexOutOfBoundsException, IllegalStateException {
        if (!room.hasLock(lock)) {
            throw new IndexOutOfBoundsException("there is no such lock");
        }
        Lock faulty = room.locks[lock];
        if (faulty.isBroken) {
            throw new IllegalStateException("the lock is broken");
        }
        faulty.isBroken = true;
        return faulty.wear;
    }

    /** Repairs a broken lock; returns the coins then. */
    public int repair(int lock) throws IndexOutOfBoundsException, IllegalStateException {
        if (!room.hasLock(lock)) {
            throw new IndexOutOfBoundsException("there is no such lock");
        }
        Lock faulty = room.locks[lock];
        if (!faulty.isBroken) {
            throw new IllegalStateException("the lock is not broken");
        }
        faulty.mend();
        room.coins -= faulty.hard;
        return room.coins;
    }

    /** Power is cut, or comes again; returns the set of locks that are open by this call. */
    public int power(boolean is) {
        boolean isCut = room.hasPower && !is;
        room.hasPower = is;
        return isCut ? room.releaseMagnets() : 0;
    }

    /** Puts a thing in its place again; returns its state before. */
    public int put(int thing) throws IndexOutOfBoundsException, IllegalStateException {
        if (!room.hasThing(thing)) {
            throw new IndexOutOfBoundsException("there is no such thing");
        }
        Thing taken = room.things[thing];
        int before = taken.state;
        if (room.games.isRunning || before != FOUND && before != KEPT || room.now >= LAST_NOW) {
            throw new IllegalStateException("a game runs, the thing is neither found nor kept, or it is too late");
        }
        taken.layInPlace();
        room.now++;
        return before;
    }

    /** Shuts an open lock; returns its work before. */
    public int shut(int lock) throws IndexOutOfBoundsException, IllegalStateException {
        if (!room.hasLock(lock)) {
            throw new IndexOutOfBoundsException("there is no such lock");
        }
        Lock closed = room.locks[lock];
        boolean isHeldOpen = closed.isMagnet && !room.hasPower;
        if (room.games.isRunning || !closed.isOpen || isHeldOpen || room.now >= LAST_NOW) {
            throw new IllegalStateException("a game runs, the lock is not open, has no power, or it is too late");
        }
        int before = closed.work;
        closed.close();
        room.now++;
        return before;
    }

    // ---- what is asked

    /** Tells how a lock stands: 0 needs to 9 ready. */
    public int ofLock(int lock, int what) throws IndexOutOfBoundsException, IllegalArgumentException {
        if (!room.hasLock(lock)) {
            throw new IndexOutOfBoundsException("there is no such lock");
        }
        if (!isWithin(what, 0, WHATS_OF_LOCK - 1)) {
            throw new IllegalArgumentException("what is not 0 to 9");
        }
        return room.tellLock(lock, what);
    }

    /** Tells how a thing stands: 0 its place to 5 the locks that need it. */
    public int ofThing(int thing, int what) throws IndexOutOfBoundsException, IllegalArgumentException {
        if (!room.hasThing(thing)) {
            throw new IndexOutOfBoundsException("there is no such thing");
        }
        if (!isWithin(what, 0, WHATS_OF_THING - 1)) {
            throw new IllegalArgumentException("what is not 0 to 5");
        }
        return room.tellThing(thing, what);
    }

    /** Tells how a player stands: 0 the skill to 3 the minutes that were idled. */
    public int ofPlayer(int player, int what) throws IndexOutOfBoundsException, IllegalArgumentException {
        if (!room.hasPlayer(player)) {
            throw new IndexOutOfBoundsException("there is no such player");
        }
        if (!isWithin(what, 0, WHATS_OF_PLAYER - 1)) {
            throw new IllegalArgumentException("what is not 0 to 3");
        }
        return room.tellPlayer(player, what);
    }

    /** Tells how the room stands: 0 the minute to 18 the minutes that players idled ever. */
    public int many(int what) throws IllegalArgumentException {
        if (!isWithin(what, 0, WHATS_OF_ROOM - 1)) {
            throw new IllegalArgumentException("what is not 0 to 18");
        }
        return room.tell(what);
    }

    /** Returns the mean score of all games that were solved; 0 without any. */
    public double meanScore() {
        if (room.games.solved == 0) {
            return 0;
        }
        return (double) room.games.sumOfScores / room.games.solved;
    }

    // ---- what would be (nothing is changed)

    /** Returns whether a stand with the exit can be come to. */
    public boolean canEnd() {
        return future.findDepth(room) != NONE;
    }

    /** Returns how many stands can be come to. */
    public int stands() {
        return future.countReached(room);
    }

    /** Returns how many of these are dead ends. */
    public int deadEnds() {
        return future.countDeadEnds(room);
    }

    /** Returns the least number of locks to be opened until the exit is. */
    public int depth() {
        return future.findDepth(room);
    }

    /** Returns the set of things without each of which the exit could not be come to. */
    public int cannotMiss() {
        return future.findMusts(room);
    }

    /** Returns the ready lock behind which the exit is nearest. */
    public int bestHint() {
        return future.findBestReady(room);
    }

    /** Returns at which time the game that runs would end solved, if nothing else was done. */
    public int endsAt() {
        if (!room.games.isRunning) {
            return NONE;
        }
        trial.copyFrom(room);
        for (int k = 0; k < LONGEST_GAME && trial.games.isRunning; k++) {
            trial.letMinuteGoBy();
        }
        return trial.games.solved > room.games.solved ? trial.games.time : NONE;
    }

    /** Computes a checksum of all that can be asked. */
    public long digest() {
        long d = DIGEST_START;
        for (int what = 0; what < WHATS_OF_ROOM; what++) {
            d = mix(d, room.tell(what));
        }
        d = mixLocks(d);
        d = mixThings(d);
        d = mixPlayers(d);
        d = mix(d, canEnd() ? 1 : 0);
        d = mix(d, stands());
        d = mix(d, deadEnds());
        d = mix(d, depth());
        d = mix(d, cannotMiss());
        d = mix(d, bestHint());
        return mix(d, endsAt());
    }

    private long mixLocks(long start) {
        long d = start;
        for (int k = 0; k < room.lockCount; k++) {
            for (int what = 0; what < WHATS_OF_LOCK; what++) {
                d = mix(d, room.tellLock(k, what));
            }
        }
        return d;
    }

    private long mixThings(long start) {
        long d = start;
        for (int k = 0; k < room.thingCount; k++) {
            for (int what = 0; what < WHATS_OF_THING; what++) {
                d = mix(d, room.tellThing(k, what));
            }
        }
        return d;
    }

    private long mixPlayers(long start) {
        long d = start;
        for (int k = 0; k < room.playerCount; k++) {
            for (int what = 0; what < WHATS_OF_PLAYER; what++) {
                d = mix(d, room.tellPlayer(k, what));
            }
        }
        return d;
    }

    private static long mix(long d, int value) {
        return d * DIGEST_FACTOR + value;
    }

    private static boolean isWithin(int number, int least, int most) {
        return number >= least && number <= most;
    }

    private static boolean isIn(int set, int number) {
        return number != NONE && (set >> number & 1) == 1;
    }

    private static int oneIf(boolean is) {
        return is ? 1 : 0;
    }

    /** A lock: what was told of it, and how it stands. */
    private static final class Lock {
        int needs;
        int keeps;
        int hard;
        boolean isMagnet;
        boolean isOpen;
        boolean isBroken;
        int work;
        int hints;
        int wear;
        int workersThisMinute;

        void copyFrom(Lock other) {
            needs = other.needs;
            keeps = other.keeps;
            hard = other.hard;
            isMagnet = other.isMagnet;
            isOpen = other.isOpen;
            isBroken = other.isBroken;
            work = other.work;
            hints = other.hints;
            wear = other.wear;
            workersThisMinute = other.workersThisMinute;
        }

        boolean isReady(int thingsAtHand) {
            return !isOpen && !isBroken && (needs & ~thingsAtHand) == 0;
        }

        void takeHint() {
            hints++;
            work += (hard - work) / 2;
        }

        void openByWork() {
            isOpen = true;
            wear++;
            if (wear >= WORN_OUT) {
                isBroken = true;
            }
        }

        void close() {
            isOpen = false;
            work = 0;
            hints = 0;
        }

        void mend() {
            isBroken = false;
            wear = 0;
        }
    }

    /** A thing: what was told of it, and how it stands. */
    private static final class Thing {
        int place;
        int hid;
        int searched;
        int state;
        boolean isSearchedThisMinute;

        void copyFrom(Thing other) {
            place = other.place;
            hid = other.hid;
            searched = other.searched;
            state = other.state;
            isSearchedThisMinute = other.isSearchedThisMinute;
        }

        boolean canBeReached(int openLocks) {
            return state == LIES && (place == NONE || (openLocks >> place & 1) == 1);
        }

        void layInPlace() {
            state = LIES;
            searched = 0;
        }
    }

    /** A player: the skill, and what was done in the latest minute. */
    private static final class Player {
        int skill;
        int atLock;
        int atThing;
        int idled;

        void come(int newSkill) {
            skill = newSkill;
            idled = 0;
            rest();
        }

        void rest() {
            atLock = NONE;
            atThing = NONE;
        }

        void copyFrom(Player other) {
            skill = other.skill;
            atLock = other.atLock;
            atThing = other.atThing;
            idled = other.idled;
        }
    }

    /** The latest game, and how all ended. */
    private static final class Games {
        boolean isRunning;
        int time;
        int hints;
        int solved;
        int lost;
        int record = NONE;
        long sumOfScores;

        void copyFrom(Games other) {
            isRunning = other.isRunning;
            time = other.time;
            hints = other.hints;
            solved = other.solved;
            lost = other.lost;
            record = other.record;
            sumOfScores = other.sumOfScores;
        }

        void start() {
            isRunning = true;
            time = 0;
            hints = 0;
        }

        void endSolved() {
            isRunning = false;
            solved++;
            int score = time + SCORE_OF_HINT * hints;
            sumOfScores += score;
            if (record == NONE || score < record) {
                record = score;
            }
        }

        void endLost() {
            isRunning = false;
            lost++;
        }
    }

    /** The room as it is by now, and how a minute changes it. */
    private static final class Room {
        final Lock[] locks = new Lock[MOST_LOCKS];
        final Thing[] things = new Thing[MOST_THINGS];
        final Player[] players = new Player[MOST_PLAYERS];
        final Games games = new Games();
        int lockCount;
        int thingCount;
        int playerCount;
        int exit = NONE;
        boolean hasPower = true;
        int now;
        int coins;
        int idledEver;

        Room() {
            for (int k = 0; k < MOST_LOCKS; k++) {
                locks[k] = new Lock();
            }
            for (int k = 0; k < MOST_THINGS; k++) {
                things[k] = new Thing();
            }
            for (int k = 0; k < MOST_PLAYERS; k++) {
                players[k] = new Player();
            }
        }

        void copyFrom(Room other) {
            for (int k = 0; k < other.lockCount; k++) {
                locks[k].copyFrom(other.locks[k]);
            }
            for (int k = 0; k < other.thingCount; k++) {
                things[k].copyFrom(other.things[k]);
            }
            for (int k = 0; k < other.playerCount; k++) {
                players[k].copyFrom(other.players[k]);
            }
            games.copyFrom(other.games);
            lockCount = other.lockCount;
            thingCount = other.thingCount;
            playerCount = other.playerCount;
            exit = other.exit;
            hasPower = other.hasPower;
            now = other.now;
            coins = other.coins;
            idledEver = other.idledEver;
        }

        boolean hasLock(int number) {
            return number >= 0 && number < lockCount;
        }

        boolean hasThing(int number) {
            return number >= 0 && number < thingCount;
        }

        boolean hasPlayer(int number) {
            return number >= 0 && number < playerCount;
        }

        int addLock(int needs, int keeps, int hard, boolean isMagnet, boolean isExit) {
            int number = lockCount;
            if (number >= MOST_LOCKS) {
                return NONE;
            }
            Lock told = locks[number];
            told.needs = needs;
            told.keeps = keeps;
            told.hard = hard;
            told.isMagnet = isMagnet;
            if (isExit) {
                exit = number;
            }
            lockCount++;
            return number;
        }

        int addThing(int place, int hid) {
            int number = thingCount;
            if (number >= MOST_THINGS) {
                return NONE;
            }
            Thing told = things[number];
            told.place = place;
            told.hid = hid;
            thingCount++;
            return number;
        }

        int addPlayer(int skill) {
            int number = playerCount;
            if (number >= MOST_PLAYERS) {
                return NONE;
            }
            players[number].come(skill);
            playerCount++;
            return number;
        }

        int openLocks() {
            int set = 0;
            for (int k = 0; k < lockCount; k++) {
                if (locks[k].isOpen) {
                    set |= 1 << k;
                }
            }
            return set;
        }

        int readyLocks() {
            int found = thingsIn(FOUND);
            int set = 0;
            for (int k = 0; k < lockCount; k++) {
                if (locks[k].isReady(found)) {
                    set |= 1 << k;
                }
            }
            return set;
        }

        int locksThatNeed(int thing) {
            int set = 0;
            for (int k = 0; k < lockCount; k++) {
                if (isIn(locks[k].needs, thing)) {
                    set |= 1 << k;
                }
            }
            return set;
        }

        int thingsIn(int state) {
            int set = 0;
            for (int k = 0; k < thingCount; k++) {
                if (things[k].state == state) {
                    set |= 1 << k;
                }
            }
            return set;
        }

        boolean isExitOpen() {
            return isIn(openLocks(), exit);
        }

        /** The things that a stand leaves to the locks that are still to be opened. */
        int thingsAtHand(int stand) {
            int atHand = thingsIn(FOUND);
            for (int k = 0; k < thingCount; k++) {
                if (things[k].canBeReached(stand)) {
                    atHand |= 1 << k;
                }
            }
            for (int k = 0; k < lockCount; k++) {
                if (isIn(stand, k) && !locks[k].isOpen) {
                    atHand &= ~locks[k].keeps;
                }
            }
            return atHand;
        }

        void startGame() {
            games.start();
            coins += COINS_OF_PLAYER * playerCount;
        }

        void solveGame() {
            games.endSolved();
            playerCount = 0;
        }

        void loseGame() {
            games.endLost();
            playerCount = 0;
        }

        /** Returns how many locks were opened in this minute. */
        int letMinuteGoBy() {
            now++;
            if (!games.isRunning) {
                return 0;
            }
            games.time++;
            forgetLastMinute();
            int opened = 0;
            // The game can end at any player's turn: then there is no next player, for all are gone.
            for (int k = 0; k < playerCount; k++) {
                opened += oneIf(takeTurn(players[k]));
            }
            if (games.isRunning && games.time >= LONGEST_GAME) {
                loseGame();
            }
            return opened;
        }

        private void forgetLastMinute() {
            for (int k = 0; k < lockCount; k++) {
                locks[k].workersThisMinute = 0;
            }
            for (int k = 0; k < thingCount; k++) {
                things[k].isSearchedThisMinute = false;
            }
            for (int k = 0; k < playerCount; k++) {
                players[k].rest();
            }
        }

        /** Returns whether a lock was opened. */
        private boolean takeTurn(Player player) {
            int lock = findWork();
            if (hasLock(lock)) {
                player.atLock = lock;
                return workAt(locks[lock], lock, player.skill);
            }
            int thing = findSearch();
            if (hasThing(thing)) {
                player.atThing = thing;
                searchFor(things[thing], player.skill);
            } else {
                player.idled++;
                idledEver++;
            }
            return false;
        }

        private int findWork() {
            int found = thingsIn(FOUND);
            for (int k = 0; k < lockCount; k++) {
                if (locks[k].isReady(found) && locks[k].workersThisMinute < MOST_WORKERS) {
                    return k;
                }
            }
            return NONE;
        }

        private int findSearch() {
            int open = openLocks();
            for (int k = 0; k < thingCount; k++) {
                if (things[k].canBeReached(open) && !things[k].isSearchedThisMinute) {
                    return k;
                }
            }
            return NONE;
        }

        /** Returns whether the lock was opened. */
        private boolean workAt(Lock lock, int number, int skill) {
            lock.workersThisMinute++;
            lock.work += skill;
            if (lock.work < lock.hard) {
                return false;
            }
            lock.openByWork();
            keepThings(lock.keeps);
            if (number == exit) {
                solveGame();
            }
            return true;
        }

        private void keepThings(int set) {
            for (int k = 0; k < thingCount; k++) {
                if (isIn(set, k)) {
                    things[k].state = KEPT;
                }
            }
        }

        private void searchFor(Thing thing, int skill) {
            thing.isSearchedThisMinute = true;
            thing.searched += skill;
            if (thing.searched > thing.hid) {
                thing.state = FOUND;
            }
        }

        /** Returns the set of locks that are open by this. */
        int releaseMagnets() {
            int released = 0;
            for (int k = 0; k < lockCount; k++) {
                if (locks[k].isMagnet && !locks[k].isOpen) {
                    locks[k].isOpen = true;
                    released |= 1 << k;
                }
            }
            if (games.isRunning && isIn(released, exit)) {
                loseGame();
            }
            return released;
        }

        int tellLock(int number, int what) {
            if (!hasLock(number)) {
                return NONE;
            }
            Lock lock = locks[number];
            switch (what) {
                case 0: return lock.needs;
                case 1: return lock.keeps;
                case 2: return lock.hard;
                case 3: return oneIf(lock.isMagnet);
                case 4: return oneIf(lock.isOpen);
                case 5: return lock.work;
                case 6: return lock.hints;
                case 7: return lock.wear;
                case 8: return oneIf(lock.isBroken);
                default: return oneIf(lock.isReady(thingsIn(FOUND)));
            }
        }

        int tellThing(int number, int what) {
            if (!hasThing(number)) {
                return NONE;
            }
            Thing thing = things[number];
            switch (what) {
                case 0: return thing.place;
                case 1: return thing.hid;
                case 2: return thing.searched;
                case 3: return thing.state;
                case 4: return oneIf(thing.canBeReached(openLocks()));
                default: return locksThatNeed(number);
            }
        }

        int tellPlayer(int number, int what) {
            if (!hasPlayer(number)) {
                return NONE;
            }
            Player player = players[number];
            switch (what) {
                case 0: return player.skill;
                case 1: return player.atLock;
                case 2: return player.atThing;
                default: return player.idled;
            }
        }

        int tell(int what) {
            switch (what) {
                case 0: return now;
                case 1: return lockCount;
                case 2: return thingCount;
                case 3: return playerCount;
                case 4: return oneIf(games.isRunning);
                case 5: return games.time;
                case 6: return games.solved;
                case 7: return games.lost;
                case 8: return games.record;
                case 9: return coins;
                case 10: return games.hints;
                case 11: return exit;
                case 12: return openLocks();
                case 13: return readyLocks();
                case 14: return thingsIn(FOUND);
                case 15: return thingsIn(KEPT);
                case 16: return thingsIn(STOLEN);
                case 17: return oneIf(hasPower);
                default: return idledEver;
            }
        }
    }

    /**
     * All stands that may come. Which things were kept since now follows from the stand alone,
     * so one place per stand is enough, however the stand was come to.
     */
    private static final class Stands {
        private final boolean[] isReached = new boolean[ALL_STANDS];
        /** For each stand that is reached, the set of locks that could be opened next. */
        private final int[] ways = new int[ALL_STANDS];
        /** For each stand, the least number of locks yet to be opened until the exit is, or NONE. */
        private final int[] yet = new int[ALL_STANDS];

        int countReached(Room room) {
            explore(room, 0);
            int count = 0;
            for (int stand = 0; stand < endOfStands(room); stand++) {
                count += oneIf(isReached[stand]);
            }
            return count;
        }

        int countDeadEnds(Room room) {
            explore(room, 0);
            int count = 0;
            for (int stand = 0; stand < endOfStands(room); stand++) {
                count += oneIf(isReached[stand] && yet[stand] == NONE);
            }
            return count;
        }

        int findDepth(Room room) {
            explore(room, 0);
            return yetBehind(room.openLocks());
        }

        int findMusts(Room room) {
            int open = room.openLocks();
            explore(room, 0);
            if (yetBehind(open) == NONE) {
                return 0;
            }
            int musts = 0;
            for (int k = 0; k < room.thingCount; k++) {
                explore(room, 1 << k);
                if (yetBehind(open) == NONE) {
                    musts |= 1 << k;
                }
            }
            return musts;
        }

        int findBestReady(Room room) {
            explore(room, 0);
            int open = room.openLocks();
            int ready = room.readyLocks();
            int best = NONE;
            int least = NONE;
            for (int k = 0; k < room.lockCount; k++) {
                int behind = isIn(ready, k) ? yetBehind(open | 1 << k) : NONE;
                if (behind != NONE && (best == NONE || behind < least)) {
                    best = k;
                    least = behind;
                }
            }
            return best;
        }

        private int endOfStands(Room room) {
            return Math.min(1 << room.lockCount, ALL_STANDS);
        }

        private int yetBehind(int stand) {
            return stand >= 0 && stand < ALL_STANDS ? yet[stand] : NONE;
        }

        /** Finds the stands that can be come to without some things, and how far the exit is from each. */
        private void explore(Room room, int missing) {
            int end = endOfStands(room);
            int open = room.openLocks();
            for (int stand = 0; stand < end; stand++) {
                isReached[stand] = stand == open;
                yet[stand] = NONE;
            }
            // Upwards, as a stand is come to from smaller numbers alone.
            for (int stand = 0; stand < end; stand++) {
                if (isReached[stand]) {
                    goOn(room, stand, missing);
                }
            }
            // Downwards, as how far the exit is follows from greater numbers alone.
            for (int stand = end - 1; stand >= 0; stand--) {
                if (isReached[stand]) {
                    yet[stand] = isIn(stand, room.exit) ? 0 : leastYet(room, stand);
                }
            }
        }

        private void goOn(Room room, int stand, int missing) {
            int atHand = room.thingsAtHand(stand) & ~missing;
            int next = 0;
            for (int k = 0; k < room.lockCount; k++) {
                int greater = stand | 1 << k;
                if (greater != stand && greater < ALL_STANDS && room.locks[k].isReady(atHand)) {
                    isReached[greater] = true;
                    next |= 1 << k;
                }
            }
            ways[stand] = next;
        }

        private int leastYet(Room room, int stand) {
            int least = NONE;
            for (int k = 0; k < room.lockCount; k++) {
                int behind = isIn(ways[stand], k) ? yetBehind(stand | 1 << k) : NONE;
                if (behind != NONE && (least == NONE || behind + 1 < least)) {
                    least = behind + 1;
                }
            }
            return least;
        }
    }
}
