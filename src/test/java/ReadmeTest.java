import java.io.IOException;
import java.lang.reflect.Method;
import java.nio.file.Files;
import java.nio.file.Path;
import java.util.regex.Matcher;
import java.util.regex.Pattern;

/** Runs the example of README.md: what stands behind a call is what it answers. */
public final class ReadmeTest {
    private static final Answers ANSWERS = new Answers();
    private static final Pattern MADE = Pattern.compile("MotionDesk desk = new MotionDesk\\((\\d+)\\);.*");
    private static final Pattern CALL =
            Pattern.compile("desk\\.(\\w+)\\(([-\\d, ]*)\\); +// (?:(-?\\d+|true|false)(?:: .*)?|no .*)");

    public static void main(String[] args) throws IOException, ReflectiveOperationException {
        MotionDesk desk = null;
        int calls = 0;
        for (String line : example(Files.readString(Path.of("README.md"))).split("\n")) {
            Matcher made = MADE.matcher(line);
            Matcher call = CALL.matcher(line);
            if (made.matches()) {
                desk = new MotionDesk(Integer.parseInt(made.group(1)));
            } else if (call.matches()) {
                calls++;
                Object answer = answerOf(desk, call.group(1), call.group(2));
                ANSWERS.due(line, String.valueOf(answer), String.valueOf(call.group(3)));
            } else {
                ANSWERS.due("a line that is no call with its answer: " + line, line.isBlank(), true);
            }
        }
        ANSWERS.due("the example has calls", calls > 0, true);
        ANSWERS.end();
    }

    private static String example(String readme) {
        int begin = readme.indexOf("```java\n") + "```java\n".length();
        return readme.substring(begin, readme.indexOf("```", begin));
    }

    /** Of a void method null, as of a line without an answer. */
    private static Object answerOf(MotionDesk desk, String name, String numbers)
            throws ReflectiveOperationException {
        String[] parts = numbers.isEmpty() ? new String[0] : numbers.split(", ");
        Class<?>[] types = new Class<?>[parts.length];
        Object[] with = new Object[parts.length];
        for (int k = 0; k < parts.length; k++) {
            types[k] = int.class;
            with[k] = Integer.parseInt(parts[k]);
        }
        Method method = MotionDesk.class.getMethod(name, types);
        return method.invoke(desk, with);
    }
}
