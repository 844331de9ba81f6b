import java.io.IOException;
import java.lang.reflect.InvocationTargetException;
import java.lang.reflect.Method;
import java.nio.file.Files;
import java.nio.file.Path;
import java.util.HashMap;
import java.util.Map;
import java.util.regex.Matcher;
import java.util.regex.Pattern;

/** The calls that README.md tells, done one behind the other: each answers what stands beside it. */
public final class ReadmeTest {
    private static final Pattern MADE = Pattern.compile("KeyGraph x = new KeyGraph\\(\\);");
    private static final Pattern CALL =
        Pattern.compile("(?:int (\\w+) = )?x\\.(\\w+)\\((.*)\\);\\s+// (throws \\w+|-?\\w+)(?:: .*)?");

    private final Map<String, String> numbers = new HashMap<>();
    private KeyGraph x = null;
    private int calls = 0;

    public static void main(String[] args) throws IOException, IllegalAccessException {
        ReadmeTest test = new ReadmeTest();
        boolean isCode = false;
        for (String line : Files.readAllLines(Path.of("README.md"))) {
            if (line.startsWith("```")) {
                isCode = line.equals("```java");
            } else if (isCode) {
                test.go(line);
            }
        }
        Due.is("README.md tells calls", test.calls > 0, true);
        Due.end();
    }

    private void go(String line) throws IllegalAccessException {
        if (MADE.matcher(line).matches()) {
            x = new KeyGraph();
            return;
        }
        Matcher call = CALL.matcher(line);
        boolean isCall = x != null && call.matches();
        Due.is("README.md has a call in: " + line, isCall, true);
        if (isCall) {
            calls++;
            String answer = answer(method(call.group(2)), call.group(3));
            Due.same("README.md: " + line, answer, call.group(4));
            if (call.group(1) != null) {
                numbers.put(call.group(1), answer);
            }
        }
    }

    /** The face has no two methods of one name. */
    private static Method method(String name) {
        for (Method m : KeyGraph.class.getMethods()) {
            if (m.getName().equals(name)) {
                return m;
            }
        }
        throw new IllegalArgumentException("README.md calls " + name + ", which isn't there");
    }

    private String answer(Method method, String text) throws IllegalAccessException {
        String[] texts = text.isEmpty() ? new String[0] : text.split(", ");
        Object[] values = new Object[texts.length];
        for (int i = 0; i < texts.length; i++) {
            values[i] = argument(method.getParameterTypes()[i], numbers.getOrDefault(texts[i], texts[i]));
        }
        try {
            return String.valueOf(method.invoke(x, values));
        } catch (InvocationTargetException e) {
            return "throws " + e.getCause().getClass().getSimpleName();
        }
    }

    private static Object argument(Class<?> type, String text) {
        if (type == boolean.class) {
            return Boolean.valueOf(text);
        }
        if (type == long.class) {
            return Long.valueOf(text.replace("L", ""));
        }
        return Integer.valueOf(text);
    }
}
