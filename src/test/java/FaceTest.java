import java.lang.reflect.Constructor;
import java.lang.reflect.Field;
import java.lang.reflect.Method;
import java.lang.reflect.Modifier;
import java.util.Arrays;
import java.util.TreeSet;

/** The public face is the document's, and nothing beside it can be seen from outside. */
public final class FaceTest {
    private static final Answers ANSWERS = new Answers();

    public static void main(String[] args) {
        ANSWERS.due("the class is public and final", MotionDesk.class.getModifiers(),
                Modifier.PUBLIC | Modifier.FINAL);
        ANSWERS.due("NONE", MotionDesk.NONE, -1);
        same("methods", methods(), "about(int, int) int", "clear() void", "count(int) int",
                "key(int, int, int, int) int", "set(int, int, int, int, int) boolean",
                "time(int) boolean", "track(int, int, int) int", "value(int, int, int) int");
        same("fields", fields(), "public static final int NONE");
        same("constructors", constructors(), "public MotionDesk(int)");
        ANSWERS.end();
    }

    private static void same(String what, TreeSet<String> got, String... want) {
        TreeSet<String> due = new TreeSet<>(Arrays.asList(want));
        ANSWERS.due(what + " are " + got + ", due are " + due, got.equals(due), true);
    }

    private static TreeSet<String> methods() {
        TreeSet<String> seen = new TreeSet<>();
        for (Method m : MotionDesk.class.getDeclaredMethods()) {
            if (!Modifier.isPrivate(m.getModifiers())) {
                String types = Arrays.toString(m.getParameterTypes());
                seen.add(m.getName() + "(" + types.substring(1, types.length() - 1) + ") " + m.getReturnType());
            }
        }
        return seen;
    }

    private static TreeSet<String> fields() {
        TreeSet<String> seen = new TreeSet<>();
        for (Field f : MotionDesk.class.getDeclaredFields()) {
            if (!Modifier.isPrivate(f.getModifiers())) {
                seen.add(Modifier.toString(f.getModifiers()) + " " + f.getType() + " " + f.getName());
            }
        }
        return seen;
    }

    private static TreeSet<String> constructors() {
        TreeSet<String> seen = new TreeSet<>();
        for (Constructor<?> c : MotionDesk.class.getDeclaredConstructors()) {
            if (!Modifier.isPrivate(c.getModifiers())) {
                seen.add(c.toString());
            }
        }
        return seen;
    }
}
