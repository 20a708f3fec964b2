import java.io.IOException;
import java.lang.reflect.InvocationTargetException;
import java.lang.reflect.Method;
import java.lang.reflect.Modifier;
import java.nio.file.Files;
import java.nio.file.Path;
import java.util.Arrays;
import java.util.Set;
import java.util.TreeSet;
import java.util.regex.Matcher;
import java.util.regex.Pattern;

/** The calls that README.md shows answer what it says behind them, and it shows every method of the face. */
public final class ReadmeTest {
    private static final Pattern CALL =
        Pattern.compile("x\\.(\\w+)\\(([-\\d, ]*)\\); +// (throws \\w+|[-\\w]+)(:.*)?");
    private static final String NEW_OBJECT = "BoxChoice x = new BoxChoice();";

    private static final Set<String> shown = new TreeSet<>();
    private static BoxChoice x = null;
    private static int wrong = 0;

    private static void fail(String why) {
        wrong++;
        System.out.println(why);
    }

    private static Method methodOf(String name) {
        for (Method method : BoxChoice.class.getDeclaredMethods()) {
            if (Modifier.isPublic(method.getModifiers()) && method.getName().equals(name)) {
                return method;
            }
        }
        throw new AssertionError("README.md calls what is not of the face: " + name);
    }

    private static Object[] numbersOf(String text) {
        return text.isBlank() ? new Object[0] : Arrays.stream(text.split(", *")).map(Integer::valueOf).toArray();
    }

    private static String answerOf(Method method, Object[] numbers) throws IllegalAccessException {
        try {
            Object answer = method.invoke(x, numbers);
            return answer == null ? "done" : answer.toString();
        } catch (InvocationTargetException e) {
            return "throws " + e.getCause().getClass().getSimpleName();
        }
    }

    private static void tryLine(String line) throws IllegalAccessException {
        Matcher call = CALL.matcher(line);
        if (line.equals(NEW_OBJECT)) {
            x = new BoxChoice();
        } else if (call.matches()) {
            shown.add(call.group(1));
            String answer = answerOf(methodOf(call.group(1)), numbersOf(call.group(2)));
            if (!answer.equals(call.group(3))) {
                fail("README.md: " + line + " answered " + answer);
            }
        } else if (!line.isBlank()) {
            fail("README.md: no call with its answer: " + line);
        }
    }

    private static void tryExamples() throws IOException, IllegalAccessException {
        boolean inside = false;
        for (String line : Files.readAllLines(Path.of("README.md"))) {
            if (line.startsWith("```")) {
                inside = line.equals("```java");
            } else if (inside) {
                tryLine(line);
            }
        }
    }

    private static void needEveryMethod() {
        for (Method method : BoxChoice.class.getDeclaredMethods()) {
            if (Modifier.isPublic(method.getModifiers()) && !shown.contains(method.getName())) {
                fail("README.md does not show " + method.getName());
            }
        }
    }

    public static void main(String[] args) throws IOException, IllegalAccessException {
        tryExamples();
        needEveryMethod();
        System.out.println(wrong == 0 ? "README.md is as due" : wrong + " things are not as due");
        if (wrong != 0) {
            System.exit(1);
        }
    }
}
