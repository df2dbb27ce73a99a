import java.io.IOException;
import java.lang.reflect.Field;
import java.lang.reflect.Method;
import java.lang.reflect.Modifier;
import java.nio.file.Files;
import java.nio.file.Path;
import java.util.ArrayList;
import java.util.List;
import java.util.regex.Matcher;
import java.util.regex.Pattern;

/** The rules of LANGUAGE.md that the program's text, or its compiled classes, show at once. */
public final class LanguageTest {
    /** What the program does without: a rule's number, and a pattern of what it rules out. */
    private static final String[][] RULED_OUT = {
        {"1", "^\\s*package\\b"},
        {"2", "->|::"},
        {"3", "\\bvar\\b"},
        {"4", "\\bimport\\b"},
        {"4", "\\w+Exact\\("},
        {"5", "\\bstatic\\s*\\{"},
        {"6", "\\b(try|catch|finally|synchronized|assert)\\b"},
        {"6", "\\.(hashCode|toString|equals|getMessage)\\("},
        {"9", "while\\s*\\(\\s*true|for\\s*\\(\\s*;\\s*;"},
        {"13", "\\b(System|Thread|Random|Runtime)\\b"},
    };

    private static final int MOST_LINES = 60;
    private static final int MOST_PARAMETERS = 7;
    private static final int MOST_CLASSES = 12;
    private static final int MOST_FIELDS = 20;

    public static void main(String[] args) throws IOException {
        Check check = new Check();
        String program = Files.readString(Path.of("src/main/java/LockRooms.java"));
        for (String[] rule : RULED_OUT) {
            check.promise("LANGUAGE.md, rule " + rule[0]);
            Matcher found = Pattern.compile(rule[1], Pattern.MULTILINE).matcher(withoutComments(program));
            check.due(rule[1], found.find() ? found.group() : "nothing", "nothing");
        }
        check.promise("LANGUAGE.md, rule 4");
        check.due("signs 1 to 127 alone", program.chars().allMatch(sign -> sign >= 1 && sign <= 127), true);
        check.promise("LANGUAGE.md, rule 11");
        checkMethodLines(check, program);
        checkClasses(check);
        check.end();
    }

    /** What a method closes is as far in as its head, and all between them is further in. */
    private static void checkMethodLines(Check check, String program) {
        String[] lines = program.split("\n");
        int methods = 0;
        for (int end = 0; end < lines.length; end++) {
            if (lines[end].equals("    }") || lines[end].equals("        }")) {
                int head = end - 1;
                while (indentOf(lines[head]) != indentOf(lines[end])) {
                    head--;
                }
                if (!lines[head].contains(" class ")) {
                    methods++;
                    check.due("is short: " + lines[head].strip(), end - head < MOST_LINES, true);
                }
            }
        }
        check.due("methods are found", methods > 0, true);
    }

    private static int indentOf(String line) {
        return line.isEmpty() ? Integer.MAX_VALUE : line.length() - line.stripLeading().length();
    }

    private static void checkClasses(Check check) {
        List<Class<?>> classes = new ArrayList<>(List.of(LockRooms.class.getDeclaredClasses()));
        classes.add(LockRooms.class);
        check.due("few classes", classes.size() <= MOST_CLASSES, true);
        for (Class<?> one : classes) {
            int fields = 0;
            for (Field field : one.getDeclaredFields()) {
                fields += Modifier.isStatic(field.getModifiers()) ? 0 : 1;
            }
            check.due("few fields in " + one.getName(), fields <= MOST_FIELDS, true);
            for (Method method : one.getDeclaredMethods()) {
                check.due("few parameters of " + method.getName(), method.getParameterCount() <= MOST_PARAMETERS, true);
            }
        }
    }

    private static String withoutComments(String program) {
        return program.replaceAll("(?s)/\\*.*?\\*/", "").replaceAll("//[^\n]*", "").replaceAll("\"[^\"]*\"", "\"\"");
    }
}
