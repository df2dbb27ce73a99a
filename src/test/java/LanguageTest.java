import java.io.IOException;
import java.nio.file.Files;
import java.nio.file.Path;
import java.util.regex.Matcher;
import java.util.regex.Pattern;

/** The rules of LANGUAGE.md that the program's text shows at once. */
public final class LanguageTest {
    /** What the program does without: a rule's number, and a pattern of what it rules out. */
    private static final String[][] RULED_OUT = {
        {"1", "^\\s*package\\b"},
        {"2", "->|::"},
        {"3", "\\bvar\\b"},
        {"4", "\\bimport\\b"},
        {"4", "\\w+Exact\\("},
        {"5", "\\bstatic\\s*\\{"},
        {"6", "\\b(try|catch|finally|synchronized|assert)\\b"},
        {"6", "\\.(hashCode|toString|equals|getMessage)\\("},
        {"9", "while\\s*\\(\\s*true|for\\s*\\(\\s*;\\s*;"},
        {"13", "\\b(System|Thread|Random|Runtime)\\b"},
    };

    public static void main(String[] args) throws IOException {
        Check check = new Check();
        String program = Files.readString(Path.of("src/main/java/LockRooms.java"));
        for (String[] rule : RULED_OUT) {
            check.promise("LANGUAGE.md, rule " + rule[0]);
            Matcher found = Pattern.compile(rule[1], Pattern.MULTILINE).matcher(withoutComments(program));
            check.due(rule[1], found.find() ? found.group() : "nothing", "nothing");
        }
        check.end();
    }

    private static String withoutComments(String program) {
        return program.replaceAll("(?s)/\\*.*?\\*/", "").replaceAll("//[^\n]*", "").replaceAll("\"[^\"]*\"", "\"\"");
    }
}
