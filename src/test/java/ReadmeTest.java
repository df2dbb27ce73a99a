import java.io.IOException;
import java.nio.file.Files;
import java.nio.file.Path;
import java.util.ArrayList;
import java.util.List;
import java.util.regex.Matcher;
import java.util.regex.Pattern;

/** README.md: each call of its example answers what stands behind it. */
public final class ReadmeTest {
    private static final Pattern LINE = Pattern.compile("(room\\.\\w+\\(.*\\));\\s*// ([^:\\s]+).*");

    private final Check check = new Check();
    private final List<String> answered = new ArrayList<>();

    public static void main(String[] args) throws IOException {
        new ReadmeTest().run();
    }

    private void run() throws IOException {
        check.promise("README.md");
        play();
        List<String> told = told();
        check.due("calls of the example", told.size(), answered.size());
        for (int k = 0; k < told.size() && k < answered.size(); k++) {
            check.due("call " + (k + 1) + " of the example", told.get(k), answered.get(k));
        }
        check.end();
    }

    private static List<String> told() throws IOException {
        List<String> told = new ArrayList<>();
        for (String line : Files.readAllLines(Path.of("README.md"))) {
            Matcher call = LINE.matcher(line);
            if (call.matches()) {
                told.add(call.group(1) + " " + call.group(2));
            }
        }
        return told;
    }

    private void answer(String call, Object answer) {
        answered.add("room." + call + " " + answer);
    }

    private void play() {
        LockRooms room = new LockRooms();
        answer("lock(1, 1, 10, false, false)", room.lock(1, 1, 10, false, false));
        answer("lock(2, 0, 8, true, true)", room.lock(2, 0, 8, true, true));
        answer("thing(-1, 3)", room.thing(-1, 3));
        answer("thing(0, 0)", room.thing(0, 0));
        answer("player(5)", room.player(5));
        answer("canEnd()", room.canEnd());
        answer("stands()", room.stands());
        answer("deadEnds()", room.deadEnds());
        answer("depth()", room.depth());
        answer("cannotMiss()", room.cannotMiss());
        answer("begin()", room.begin());
        answer("endsAt()", room.endsAt());
        answer("pass(1)", room.pass(1));
        answer("bestHint()", room.bestHint());
        answer("hint(0)", room.hint(0));
        answer("pass(4)", room.pass(4));
        answer("meanScore()", room.meanScore());
        answer("shut(0)", room.shut(0));
        answer("shut(1)", room.shut(1));
        answer("put(0)", room.put(0));
        answer("put(1)", room.put(1));
        answer("breaks(0)", room.breaks(0));
        answer("repair(0)", room.repair(0));
        answer("power(false)", room.power(false));
        answer("power(true)", room.power(true));
        answer("ofLock(1, 4)", room.ofLock(1, 4));
        answer("ofThing(1, 0)", room.ofThing(1, 0));
        answer("many(8)", room.many(8));
    }
}
