import java.lang.reflect.Method;
import java.nio.charset.StandardCharsets;
import java.nio.file.Files;
import java.nio.file.Path;
import java.util.regex.Matcher;
import java.util.regex.Pattern;

/** The calls that README.md shows, made in their order on one object, each with the answer that stands there. */
public final class ReadmeTest {
    private static final Pattern CALL = Pattern.compile("coast\\.(\\w+)\\(([^)]*)\\);\\s*// (-?\\d+)\\b.*");

    private static int wrong = 0;
    private static int calls = 0;

    private static void fault(String what) {
        wrong++;
        System.out.println(what);
    }

    private static Object value(String word, Class<?> type) {
        return type == boolean.class ? (Object) Boolean.valueOf(word) : Integer.valueOf(word);
    }

    private static long answer(CoastLamps coast, String name, String[] words) throws ReflectiveOperationException {
        for (Method m : CoastLamps.class.getMethods()) {
            if (m.getName().equals(name) && m.getParameterCount() == words.length) {
                Object[] values = new Object[words.length];
                for (int i = 0; i < values.length; i++) {
                    values[i] = value(words[i], m.getParameterTypes()[i]);
                }
                return ((Number) m.invoke(coast, values)).longValue();
            }
        }
        throw new NoSuchMethodException(name);
    }

    private static void line(CoastLamps coast, String text) throws ReflectiveOperationException {
        Matcher m = CALL.matcher(text);
        if (!m.matches()) {
            fault("not a call with its answer: " + text);
            return;
        }
        calls++;
        String[] words = m.group(2).isEmpty() ? new String[0] : m.group(2).split(", ");
        long got = answer(coast, m.group(1), words);
        if (got != Long.parseLong(m.group(3))) {
            fault("answered " + got + ": " + text);
        }
    }

    public static void main(String[] args) throws Exception {
        String readme = new String(Files.readAllBytes(Path.of("README.md")), StandardCharsets.UTF_8);
        int from = readme.indexOf("```java\n");
        int to = readme.indexOf("\n```", from + 1);
        String[] lines = from < 0 || to < 0 ? new String[0] : readme.substring(from, to).split("\n");
        CoastLamps coast = new CoastLamps();
        for (int i = 2; i < lines.length; i++) {
            line(coast, lines[i]);
        }
        if (calls < 14) {
            fault("README.md shows only " + calls + " calls");
        }
        for (Method m : CoastLamps.class.getDeclaredMethods()) {
            if (java.lang.reflect.Modifier.isPublic(m.getModifiers()) && !readme.contains("coast." + m.getName() + "(")) {
                fault("README.md shows no call of " + m.getName());
            }
        }
        if (!readme.contains(".ci/run")) {
            fault("README.md does not say how to run the tests");
        }
        System.out.println(wrong == 0 ? "README.md's calls answer as it says" : wrong + " faults");
        if (wrong != 0) {
            System.exit(1);
        }
    }
}
