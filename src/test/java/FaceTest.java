import java.lang.reflect.Constructor;
import java.lang.reflect.Field;
import java.lang.reflect.Method;
import java.lang.reflect.Modifier;
import java.util.Arrays;
import java.util.TreeSet;

/** The public face is the document's, and nothing beside it can be seen from outside. */
public final class FaceTest {
    private static final Answers ANSWERS = new Answers();

    public static void main(String[] args) {
        theClass();
        theMethods();
        theConstant();
        theConstructor();
        ANSWERS.end();
    }

    private static void theClass() {
        ANSWERS.says("public final class MotionDesk");
        ANSWERS.due("the class is public and final", MotionDesk.class.getModifiers(),
                Modifier.PUBLIC | Modifier.FINAL);
    }

    private static void theMethods() {
        ANSWERS.says("NUMBERS are ints");
        same("methods", methods(), "public int about(int, int)", "public void clear()", "public int count(int)",
                "public int key(int, int, int, int)", "public boolean set(int, int, int, int, int)",
                "public boolean time(int)", "public int track(int, int, int)", "public int value(int, int, int)");
    }

    private static void theConstant() {
        ANSWERS.says("public static final int NONE = -1;");
        same("fields", fields(), "public static final int NONE");
        ANSWERS.due("NONE", MotionDesk.NONE, -1);
    }

    private static void theConstructor() {
        ANSWERS.says("public MotionDesk(int nodes);");
        same("constructors", constructors(), "public MotionDesk(int)");
    }

    private static void same(String what, TreeSet<String> got, String... want) {
        TreeSet<String> due = new TreeSet<>(Arrays.asList(want));
        ANSWERS.due(what + " asked for", got.toString(), due.toString());
    }

    private static TreeSet<String> methods() {
        TreeSet<String> seen = new TreeSet<>();
        for (Method m : MotionDesk.class.getDeclaredMethods()) {
            if (!Modifier.isPrivate(m.getModifiers())) {
                String types = Arrays.toString(m.getParameterTypes());
                seen.add(Modifier.toString(m.getModifiers()) + " " + m.getReturnType() + " " + m.getName()
                        + "(" + types.substring(1, types.length() - 1) + ")");
            }
        }
        return seen;
    }

    private static TreeSet<String> fields() {
        TreeSet<String> seen = new TreeSet<>();
        for (Field f : MotionDesk.class.getDeclaredFields()) {
            if (!Modifier.isPrivate(f.getModifiers())) {
                seen.add(Modifier.toString(f.getModifiers()) + " " + f.getType() + " " + f.getName());
            }
        }
        return seen;
    }

    private static TreeSet<String> constructors() {
        TreeSet<String> seen = new TreeSet<>();
        for (Constructor<?> c : MotionDesk.class.getDeclaredConstructors()) {
            if (!Modifier.isPrivate(c.getModifiers())) {
                seen.add(c.toString());
            }
        }
        return seen;
    }
}
