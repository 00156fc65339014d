import java.io.IOException;
import java.lang.reflect.InvocationTargetException;
import java.lang.reflect.Method;
import java.nio.file.Files;
import java.nio.file.Path;
import java.util.HashMap;
import java.util.Map;
import java.util.regex.Matcher;
import java.util.regex.Pattern;

/** What README.md shows of calls and answers holds: each line of its java blocks is called, in their order. */
public final class ReadmeTest {
    private static final Path README = Path.of("README.md");
    private static final Pattern CALL =
        Pattern.compile("(?:int (\\w+) = )?court\\.(\\w+)\\(([^()]*)\\); +// (throws )?(-?\\w+)(?:: .+)?");
    private static final int FEWEST_ANSWERS = 40;

    private static final Map<String, Object> KNOWN = new HashMap<>();
    private static PassageCourt court;
    private static int answers;

    public static void main(String[] args) throws IOException, IllegalAccessException {
        boolean isCode = false;
        for (String line : Files.readAllLines(README)) {
            if (line.startsWith("```")) {
                isCode = line.equals("```java");
            } else if (isCode) {
                call(line);
            }
        }
        Check.due("README.md shows enough calls: " + answers, answers >= FEWEST_ANSWERS, true);
        Check.end();
    }

    private static void call(String line) throws IllegalAccessException {
        if (line.equals("PassageCourt court = new PassageCourt();")) {
            court = new PassageCourt();
            return;
        }
        Matcher call = CALL.matcher(line);
        boolean isCall = call.matches() && court != null;
        Check.due("README.md: can be read: " + line, isCall, true);
        if (!isCall) {
            return;
        }
        answers++;
        String thrown = "nothing";
        Object answer = "no answer";
        try {
            answer = methodOf(call.group(2)).invoke(court, arguments(call.group(3)));
        } catch (InvocationTargetException e) {
            thrown = Check.nameOf((RuntimeException) e.getCause());
        }
        if (call.group(1) != null) {
            KNOWN.put(call.group(1), answer);
        }
        boolean holds = call.group(4) == null ? answer.equals(value(call.group(5)))
            : thrown.equals("java.lang." + call.group(5));
        Check.due("README.md: answered " + answer + ", threw " + thrown + ": " + line, holds, true);
    }

    private static Method methodOf(String name) {
        for (Method method : PassageCourt.class.getDeclaredMethods()) {
            if (method.getName().equals(name)) {
                return method;
            }
        }
        throw new IllegalStateException("README.md: there is no " + name);
    }

    private static Object[] arguments(String text) throws IllegalAccessException {
        String[] parts = text.split(", ");
        Object[] found = new Object[parts.length];
        for (int i = 0; i < parts.length; i++) {
            found[i] = value(parts[i].replace("PassageCourt.", ""));
        }
        return found;
    }

    /** A number, true or false, a name that a line above gave to an answer, or a constant of the face. */
    private static Object value(String text) throws IllegalAccessException {
        if (text.matches("-?\\d+")) {
            return Integer.valueOf(text);
        }
        if (text.equals("true") || text.equals("false")) {
            return Boolean.valueOf(text);
        }
        try {
            return KNOWN.containsKey(text) ? KNOWN.get(text) : PassageCourt.class.getField(text).get(null);
        } catch (NoSuchFieldException e) {
            throw new IllegalStateException("README.md: what is " + text);
        }
    }
}
