import java.lang.reflect.Constructor;
import java.lang.reflect.Field;
import java.lang.reflect.Method;
import java.lang.reflect.Modifier;
import java.util.Arrays;
import java.util.Set;
import java.util.TreeSet;

/** The public face: every method of the document with its exceptions, and no other that is not private. */
public final class FaceTest {
    private static final String[] FACE = {
        "int lock(int, int, int, boolean, boolean) IllegalArgumentException IllegalStateException",
        "int thing(int, int) IndexOutOfBoundsException IllegalArgumentException IllegalStateException",
        "int player(int) IllegalArgumentException IllegalStateException",
        "int begin() IllegalStateException",
        "int pass(int) IllegalArgumentException IllegalStateException",
        "int hint(int) IndexOutOfBoundsException IllegalStateException",
        "int stop() IllegalStateException",
        "int steal(int) IndexOutOfBoundsException IllegalStateException",
        "int spare(int) IndexOutOfBoundsException IllegalStateException",
        "int breaks(int) IndexOutOfBoundsException IllegalStateException",
        "int repair(int) IndexOutOfBoundsException IllegalStateException",
        "int power(boolean)",
        "int put(int) IndexOutOfBoundsException IllegalStateException",
        "int shut(int) IndexOutOfBoundsException IllegalStateException",
        "int ofLock(int, int) IndexOutOfBoundsException IllegalArgumentException",
        "int ofThing(int, int) IndexOutOfBoundsException IllegalArgumentException",
        "int ofPlayer(int, int) IndexOutOfBoundsException IllegalArgumentException",
        "int many(int) IllegalArgumentException",
        "double meanScore()",
        "boolean canEnd()",
        "int stands()",
        "int deadEnds()",
        "int depth()",
        "int cannotMiss()",
        "int bestHint()",
        "int endsAt()",
        "long digest()",
    };

    public static void main(String[] args) {
        Check check = new Check();
        check.promise("The public face");
        int modifiers = LockRooms.class.getModifiers();
        check.due("public", Modifier.isPublic(modifiers), true);
        check.due("final", Modifier.isFinal(modifiers), true);
        check.due("superclass", LockRooms.class.getSuperclass().getName(), "java.lang.Object");
        checkMethods(check);
        for (Field field : LockRooms.class.getDeclaredFields()) {
            check.due("private " + field.getName(), Modifier.isPrivate(field.getModifiers()), true);
            if (Modifier.isStatic(field.getModifiers())) {
                check.due("final " + field.getName(), Modifier.isFinal(field.getModifiers()), true);
            }
        }
        Constructor<?>[] constructors = LockRooms.class.getDeclaredConstructors();
        check.due("constructors", constructors.length, 1);
        check.due("parameters of the constructor", constructors[0].getParameterCount(), 0);
        check.due("public constructor", Modifier.isPublic(constructors[0].getModifiers()), true);
        for (Class<?> inside : LockRooms.class.getDeclaredClasses()) {
            check.due("static " + inside.getName(), Modifier.isStatic(inside.getModifiers()), true);
            check.due("public " + inside.getName(), Modifier.isPublic(inside.getModifiers()), false);
        }
        check.end();
    }

    private static void checkMethods(Check check) {
        Set<String> got = new TreeSet<>();
        Set<String> publicNames = new TreeSet<>();
        for (Method method : LockRooms.class.getDeclaredMethods()) {
            if (!Modifier.isPrivate(method.getModifiers())) {
                check.due("public " + method.getName(), Modifier.isPublic(method.getModifiers()), true);
                got.add(signature(method));
                publicNames.add(method.getName());
            }
        }
        check.due("methods", got.toString(), new TreeSet<>(Arrays.asList(FACE)).toString());
        for (Method method : LockRooms.class.getDeclaredMethods()) {
            if (Modifier.isPrivate(method.getModifiers())) {
                check.due("private name " + method.getName(), publicNames.contains(method.getName()), false);
            }
        }
    }

    private static String signature(Method method) {
        StringBuilder text = new StringBuilder();
        text.append(method.getReturnType().getName()).append(' ').append(method.getName()).append('(');
        String between = "";
        for (Class<?> type : method.getParameterTypes()) {
            text.append(between).append(type.getName());
            between = ", ";
        }
        text.append(')');
        for (Class<?> type : method.getExceptionTypes()) {
            text.append(' ').append(type.getSimpleName());
        }
        return text.toString();
    }
}
