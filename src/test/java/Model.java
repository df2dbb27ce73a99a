import java.util.ArrayDeque;
import java.util.ArrayList;
import java.util.Deque;
import java.util.HashMap;
import java.util.HashSet;
import java.util.List;
import java.util.Map;
import java.util.Objects;
import java.util.Set;
import java.util.TreeSet;

/**
 * The document once more, written another way than the program: with sets of the library, and with
 * every way to go on walked one by one. Answers are texts, so that an exception is an answer too.
 */
final class Model {
    static final String INDEX = "throws IndexOutOfBoundsException";
    static final String ARGUMENT = "throws IllegalArgumentException";
    static final String STATE = "throws IllegalStateException";

    private static final class LockOf {
        Set<Integer> needs = new TreeSet<>();
        Set<Integer> keeps = new TreeSet<>();
        int hard, work, hints, wear;
        boolean magnet, open, broken;
    }

    private static final class ThingOf {
        int place, hid, searched;
        String state = "lies";
    }

    private static final class PlayerOf {
        int skill, idled;
        Integer lock, thing;
    }

    /** One way to stand: which locks are open, and which things were kept on the way. */
    private static final class Stand {
        final Set<Integer> open;
        final Set<Integer> gone;

        Stand(Set<Integer> open, Set<Integer> gone) {
            this.open = open;
            this.gone = gone;
        }

        @Override
        public boolean equals(Object other) {
            return other instanceof Stand s && open.equals(s.open) && gone.equals(s.gone);
        }

        @Override
        public int hashCode() {
            return Objects.hash(open, gone);
        }
    }

    private List<LockOf> locks = new ArrayList<>();
    private List<ThingOf> things = new ArrayList<>();
    private List<PlayerOf> players = new ArrayList<>();
    private Integer exit = null;
    private boolean power = true;
    private boolean running = false;
    private int now, time, coins, solved, lost, hints, idledEver;
    private List<Integer> scores = new ArrayList<>();

    private static Set<Integer> members(int set) {
        Set<Integer> members = new TreeSet<>();
        for (int k = 0; k < 32; k++) {
            if ((set & 1 << k) != 0) {
                members.add(k);
            }
        }
        return members;
    }

    private static int sum(Set<Integer> members) {
        int sum = 0;
        for (int k : members) {
            sum += 1 << k;
        }
        return sum;
    }

    private static int orNone(Integer number) {
        return number == null ? -1 : number;
    }

    private Set<Integer> in(String state) {
        Set<Integer> set = new TreeSet<>();
        for (int k = 0; k < things.size(); k++) {
            if (things.get(k).state.equals(state)) {
                set.add(k);
            }
        }
        return set;
    }

    private Set<Integer> open() {
        Set<Integer> set = new TreeSet<>();
        for (int k = 0; k < locks.size(); k++) {
            if (locks.get(k).open) {
                set.add(k);
            }
        }
        return set;
    }

    private boolean ready(int lock) {
        LockOf l = locks.get(lock);
        return !l.open && !l.broken && in("found").containsAll(l.needs);
    }

    private Set<Integer> allReady() {
        Set<Integer> set = new TreeSet<>();
        for (int k = 0; k < locks.size(); k++) {
            if (ready(k)) {
                set.add(k);
            }
        }
        return set;
    }

    private boolean reached(int thing) {
        ThingOf t = things.get(thing);
        return t.state.equals("lies") && (t.place < 0 || locks.get(t.place).open);
    }

    private boolean noLock(int lock) {
        return lock < 0 || lock >= locks.size();
    }

    private boolean noThing(int thing) {
        return thing < 0 || thing >= things.size();
    }

    String lock(int needs, int keeps, int hard, boolean magnet, boolean isExit) {
        if (needs < 0 || needs > 4095 || !members(needs).containsAll(members(keeps)) || hard < 1 || hard > 60) {
            return ARGUMENT;
        }
        if (locks.size() == 10 || running) {
            return STATE;
        }
        LockOf l = new LockOf();
        l.needs = members(needs);
        l.keeps = members(keeps);
        l.hard = hard;
        l.magnet = magnet;
        locks.add(l);
        if (isExit) {
            exit = locks.size() - 1;
        }
        return "" + (locks.size() - 1);
    }

    String thing(int place, int hid) {
        if (place != -1 && noLock(place)) {
            return INDEX;
        }
        if (hid < 0 || hid > 9) {
            return ARGUMENT;
        }
        if (things.size() == 12 || running) {
            return STATE;
        }
        ThingOf t = new ThingOf();
        t.place = place;
        t.hid = hid;
        things.add(t);
        return "" + (things.size() - 1);
    }

    String player(int skill) {
        if (skill < 1 || skill > 9) {
            return ARGUMENT;
        }
        if (players.size() == 6 || running) {
            return STATE;
        }
        PlayerOf p = new PlayerOf();
        p.skill = skill;
        players.add(p);
        return "" + (players.size() - 1);
    }

    String begin() {
        if (running || players.isEmpty() || exit != null && locks.get(exit).open) {
            return STATE;
        }
        running = true;
        time = 0;
        hints = 0;
        coins += 18 * players.size();
        return "" + players.size();
    }

    private void end(boolean isSolved) {
        running = false;
        players = new ArrayList<>();
        if (isSolved) {
            solved++;
            scores.add(time + 2 * hints);
        } else {
            lost++;
        }
    }

    String pass(int minutes) {
        if (minutes < 1 || minutes > 90) {
            return ARGUMENT;
        }
        if (now + minutes > 9999) {
            return STATE;
        }
        int opened = 0;
        for (int k = 0; k < minutes; k++) {
            opened += minute();
        }
        return "" + opened;
    }

    private int minute() {
        now++;
        if (!running) {
            return 0;
        }
        time++;
        int opened = 0;
        Map<Integer, Integer> workers = new HashMap<>();
        Set<Integer> searched = new HashSet<>();
        for (PlayerOf p : players) {
            p.lock = null;
            p.thing = null;
        }
        for (PlayerOf p : players) {
            for (int k : allReady()) {
                if (p.lock == null && workers.getOrDefault(k, 0) < 2) {
                    p.lock = k;
                }
            }
            for (int k = 0; k < things.size() && p.lock == null && p.thing == null; k++) {
                if (reached(k) && !searched.contains(k)) {
                    p.thing = k;
                }
            }
            if (p.lock != null) {
                workers.merge(p.lock, 1, Integer::sum);
                LockOf l = locks.get(p.lock);
                l.work += p.skill;
                if (l.work >= l.hard) {
                    opened++;
                    l.open = true;
                    l.wear += 1;
                    if (l.wear == 3) {
                        l.broken = true;
                    }
                    for (int k : l.keeps) {
                        things.get(k).state = "kept";
                    }
                    if (exit != null && exit.equals(p.lock)) {
                        end(true);
                        return opened;
                    }
                }
            } else if (p.thing != null) {
                searched.add(p.thing);
                ThingOf t = things.get(p.thing);
                t.searched += p.skill;
                if (t.searched > t.hid) {
                    t.state = "found";
                }
            } else {
                p.idled++;
                idledEver++;
            }
        }
        if (time == 60) {
            end(false);
        }
        return opened;
    }

    String hint(int lock) {
        if (noLock(lock)) {
            return INDEX;
        }
        LockOf l = locks.get(lock);
        if (!running || !ready(lock) || l.hints == 3) {
            return STATE;
        }
        l.hints++;
        hints++;
        l.work += (int) Math.floor((l.hard - l.work) / 2.0);
        return "" + l.work;
    }

    String stop() {
        if (!running) {
            return STATE;
        }
        end(false);
        return "" + time;
    }

    String steal(int thing) {
        if (noThing(thing)) {
            return INDEX;
        }
        if (!things.get(thing).state.equals("found")) {
            return STATE;
        }
        things.get(thing).state = "stolen";
        return "" + in("stolen").size();
    }

    String spare(int thing) {
        if (noThing(thing)) {
            return INDEX;
        }
        if (!things.get(thing).state.equals("stolen")) {
            return STATE;
        }
        things.get(thing).state = "lies";
        things.get(thing).searched = 0;
        coins -= 15;
        return "" + coins;
    }

    String breaks(int lock) {
        if (noLock(lock)) {
            return INDEX;
        }
        if (locks.get(lock).broken) {
            return STATE;
        }
        locks.get(lock).broken = true;
        return "" + locks.get(lock).wear;
    }

    String repair(int lock) {
        if (noLock(lock)) {
            return INDEX;
        }
        if (!locks.get(lock).broken) {
            return STATE;
        }
        locks.get(lock).broken = false;
        locks.get(lock).wear = 0;
        coins -= locks.get(lock).hard;
        return "" + coins;
    }

    String power(boolean is) {
        Set<Integer> opened = new TreeSet<>();
        if (power && !is) {
            for (int k = 0; k < locks.size(); k++) {
                if (locks.get(k).magnet && !locks.get(k).open) {
                    locks.get(k).open = true;
                    opened.add(k);
                }
            }
            if (running && exit != null && opened.contains(exit)) {
                end(false);
            }
        }
        power = is;
        return "" + sum(opened);
    }

    String put(int thing) {
        if (noThing(thing)) {
            return INDEX;
        }
        ThingOf t = things.get(thing);
        if (running || t.state.equals("lies") || t.state.equals("stolen") || now == 9999) {
            return STATE;
        }
        String before = t.state.equals("found") ? "1" : "2";
        t.state = "lies";
        t.searched = 0;
        now++;
        return before;
    }

    String shut(int lock) {
        if (noLock(lock)) {
            return INDEX;
        }
        LockOf l = locks.get(lock);
        if (running || !l.open || l.magnet && !power || now == 9999) {
            return STATE;
        }
        int before = l.work;
        l.open = false;
        l.work = 0;
        l.hints = 0;
        now++;
        return "" + before;
    }

    String ofLock(int lock, int what) {
        if (noLock(lock)) {
            return INDEX;
        }
        if (what < 0 || what > 9) {
            return ARGUMENT;
        }
        LockOf l = locks.get(lock);
        int[] all = {sum(l.needs), sum(l.keeps), l.hard, l.magnet ? 1 : 0, l.open ? 1 : 0, l.work, l.hints, l.wear,
            l.broken ? 1 : 0, ready(lock) ? 1 : 0};
        return "" + all[what];
    }

    String ofThing(int thing, int what) {
        if (noThing(thing)) {
            return INDEX;
        }
        if (what < 0 || what > 5) {
            return ARGUMENT;
        }
        ThingOf t = things.get(thing);
        Set<Integer> needers = new TreeSet<>();
        for (int k = 0; k < locks.size(); k++) {
            if (locks.get(k).needs.contains(thing)) {
                needers.add(k);
            }
        }
        int state = List.of("lies", "found", "kept", "stolen").indexOf(t.state);
        int[] all = {t.place, t.hid, t.searched, state, reached(thing) ? 1 : 0, sum(needers)};
        return "" + all[what];
    }

    String ofPlayer(int player, int what) {
        if (player < 0 || player >= players.size()) {
            return INDEX;
        }
        if (what < 0 || what > 3) {
            return ARGUMENT;
        }
        PlayerOf p = players.get(player);
        int[] all = {p.skill, orNone(p.lock), orNone(p.thing), p.idled};
        return "" + all[what];
    }

    String many(int what) {
        if (what < 0 || what > 18) {
            return ARGUMENT;
        }
        int record = scores.stream().mapToInt(Integer::intValue).min().orElse(-1);
        int[] all = {now, locks.size(), things.size(), players.size(), running ? 1 : 0, time, solved, lost, record,
            coins, hints, orNone(exit), sum(open()), sum(allReady()), sum(in("found")), sum(in("kept")),
            sum(in("stolen")), power ? 1 : 0, idledEver};
        return "" + all[what];
    }

    String meanScore() {
        return "" + scores.stream().mapToInt(Integer::intValue).average().orElse(0);
    }

    private Set<Integer> atHand(Stand stand) {
        Set<Integer> hand = new TreeSet<>(in("found"));
        for (int k : in("lies")) {
            int place = things.get(k).place;
            if (place == -1 || stand.open.contains(place)) {
                hand.add(k);
            }
        }
        hand.removeAll(stand.gone);
        return hand;
    }

    private List<Stand> nexts(Stand stand) {
        List<Stand> nexts = new ArrayList<>();
        Set<Integer> hand = atHand(stand);
        for (int k = 0; k < locks.size(); k++) {
            LockOf l = locks.get(k);
            if (!stand.open.contains(k) && !l.broken && hand.containsAll(l.needs)) {
                Set<Integer> open = new TreeSet<>(stand.open);
                open.add(k);
                Set<Integer> gone = new TreeSet<>(stand.gone);
                gone.addAll(l.keeps);
                nexts.add(new Stand(open, gone));
            }
        }
        return nexts;
    }

    /** Every way to stand that can be come to, with how many locks were opened until then. */
    private Map<Stand, Integer> walk(Stand from) {
        Map<Stand, Integer> steps = new HashMap<>();
        Deque<Stand> waiting = new ArrayDeque<>();
        steps.put(from, 0);
        waiting.add(from);
        while (!waiting.isEmpty()) {
            Stand stand = waiting.remove();
            for (Stand next : nexts(stand)) {
                if (!steps.containsKey(next)) {
                    steps.put(next, steps.get(stand) + 1);
                    waiting.add(next);
                }
            }
        }
        return steps;
    }

    private Stand here() {
        return new Stand(open(), new TreeSet<>());
    }

    /** The fewest steps to the exit, or -1. */
    private int steps(Stand from) {
        int least = -1;
        for (Map.Entry<Stand, Integer> way : walk(from).entrySet()) {
            if (exit != null && way.getKey().open.contains(exit) && (least < 0 || way.getValue() < least)) {
                least = way.getValue();
            }
        }
        return least;
    }

    String canEnd() {
        return steps(here()) >= 0 ? "1" : "0";
    }

    String stands() {
        Set<Set<Integer>> sets = new HashSet<>();
        for (Stand stand : walk(here()).keySet()) {
            sets.add(stand.open);
        }
        return "" + sets.size();
    }

    String deadEnds() {
        Set<Set<Integer>> dead = new HashSet<>();
        for (Stand stand : walk(here()).keySet()) {
            if (steps(stand) < 0) {
                dead.add(stand.open);
            }
        }
        return "" + dead.size();
    }

    String depth() {
        return "" + steps(here());
    }

    String cannotMiss() {
        Set<Integer> musts = new TreeSet<>();
        if (steps(here()) >= 0) {
            for (int k = 0; k < things.size(); k++) {
                String state = things.get(k).state;
                things.get(k).state = "stolen";
                if (steps(here()) < 0) {
                    musts.add(k);
                }
                things.get(k).state = state;
            }
        }
        return "" + sum(musts);
    }

    /** As the document tells it: the lock is opened now, and its things are kept. */
    String bestHint() {
        int best = -1;
        int least = -1;
        for (int k : allReady()) {
            Model then = copy();
            LockOf l = then.locks.get(k);
            l.open = true;
            for (int thing : l.keeps) {
                then.things.get(thing).state = "kept";
            }
            int steps = then.steps(then.here());
            if (steps >= 0 && (best < 0 || steps < least)) {
                best = k;
                least = steps;
            }
        }
        return "" + best;
    }

    String endsAt() {
        if (!running) {
            return "-1";
        }
        Model then = copy();
        while (then.running) {
            then.minute();
        }
        return then.solved == solved ? "-1" : "" + then.time;
    }

    private Model copy() {
        Model c = new Model();
        for (LockOf l : locks) {
            LockOf d = new LockOf();
            d.needs = new TreeSet<>(l.needs);
            d.keeps = new TreeSet<>(l.keeps);
            d.hard = l.hard;
            d.work = l.work;
            d.hints = l.hints;
            d.wear = l.wear;
            d.magnet = l.magnet;
            d.open = l.open;
            d.broken = l.broken;
            c.locks.add(d);
        }
        for (ThingOf t : things) {
            ThingOf d = new ThingOf();
            d.place = t.place;
            d.hid = t.hid;
            d.searched = t.searched;
            d.state = t.state;
            c.things.add(d);
        }
        for (PlayerOf p : players) {
            PlayerOf d = new PlayerOf();
            d.skill = p.skill;
            c.players.add(d);
        }
        c.exit = exit;
        c.running = running;
        c.now = now;
        c.time = time;
        c.solved = solved;
        return c;
    }

    String digest() {
        long d = 9102;
        for (int what = 0; what <= 18; what++) {
            d = d * 31 + Long.parseLong(many(what));
        }
        for (int k = 0; k < locks.size(); k++) {
            for (int what = 0; what <= 9; what++) {
                d = d * 31 + Long.parseLong(ofLock(k, what));
            }
        }
        for (int k = 0; k < things.size(); k++) {
            for (int what = 0; what <= 5; what++) {
                d = d * 31 + Long.parseLong(ofThing(k, what));
            }
        }
        for (int k = 0; k < players.size(); k++) {
            for (int what = 0; what <= 3; what++) {
                d = d * 31 + Long.parseLong(ofPlayer(k, what));
            }
        }
        for (String would : List.of(canEnd(), stands(), deadEnds(), depth(), cannotMiss(), bestHint(), endsAt())) {
            d = d * 31 + Long.parseLong(would);
        }
        return "" + d;
    }
}
