import java.io.IOException;
import java.lang.reflect.InvocationTargetException;
import java.lang.reflect.Method;
import java.lang.reflect.Modifier;
import java.nio.file.Files;
import java.nio.file.Path;
import java.util.ArrayList;
import java.util.HashMap;
import java.util.HashSet;
import java.util.List;
import java.util.Map;
import java.util.Set;
import java.util.regex.Matcher;
import java.util.regex.Pattern;

/** Makes the calls of README.md's example, line by line; it runs at the project's root. */
public final class ReadmeTest {
    private static final String FIRST = "TrainDesk desk = new TrainDesk();";
    private static final Pattern CALL = Pattern.compile(
        "(?:int (\\w+) = )?desk\\.(\\w+)\\(([^()]*)\\); +// (-?\\d+|true|false|NoSuchElementException)(: \\S.*)?");
    private static final Due DUE = new Due();
    private final TrainDesk desk = new TrainDesk();
    private final Map<String, Integer> names = new HashMap<>();
    private final Set<String> called = new HashSet<>();

    public static void main(String[] args) throws IOException, IllegalAccessException {
        List<String> readme = Files.readAllLines(Path.of("README.md"));
        ReadmeTest example = new ReadmeTest();
        example.follow(example(readme));
        for (Method m : TrainDesk.class.getDeclaredMethods()) {
            if (Modifier.isPublic(m.getModifiers())) {
                DUE.is("the example calls " + m.getName(), example.called.contains(m.getName()), true);
                DUE.is("a row tells of " + m.getName(), hasRow(readme, m), true);
            }
        }
        DUE.end("ReadmeTest");
    }

    private static List<String> example(List<String> readme) {
        List<String> lines = new ArrayList<>();
        boolean inside = false;
        for (String line : readme) {
            if (line.startsWith("```")) {
                inside = line.equals("```java");
            } else if (inside && !line.isBlank()) {
                lines.add(line);
            }
        }
        return lines;
    }

    private static boolean hasRow(List<String> readme, Method m) {
        for (String line : readme) {
            Matcher row = Pattern.compile("\\| `" + m.getName() + "\\(([^()]*)\\)` \\| .*").matcher(line);
            if (row.matches()) {
                return arguments(row.group(1)).length == m.getParameterCount();
            }
        }
        return false;
    }

    private static String[] arguments(String text) {
        return text.isEmpty() ? new String[0] : text.split(", ");
    }

    private void follow(List<String> lines) throws IllegalAccessException {
        DUE.is("the example begins with " + FIRST, !lines.isEmpty() && lines.get(0).equals(FIRST), true);
        for (int i = 1; i < lines.size(); i++) {
            Matcher call = CALL.matcher(lines.get(i));
            boolean isCall = call.matches();
            DUE.is("a call with its answer: " + lines.get(i), isCall, true);
            if (isCall) {
                String got = answer(call.group(2), arguments(call.group(3)));
                DUE.is(lines.get(i) + " (it answered " + got + ")", got.equals(call.group(4)), true);
                if (call.group(1) != null) {
                    names.put(call.group(1), Integer.valueOf(got));
                }
            }
        }
    }

    private String answer(String name, String[] arguments) throws IllegalAccessException {
        called.add(name);
        for (Method m : TrainDesk.class.getDeclaredMethods()) {
            if (m.getName().equals(name) && m.getParameterCount() == arguments.length) {
                Object[] values = new Object[arguments.length];
                for (int i = 0; i < values.length; i++) {
                    values[i] = value(arguments[i], m.getParameterTypes()[i]);
                }
                try {
                    return String.valueOf(m.invoke(desk, values));
                } catch (InvocationTargetException e) {
                    return e.getCause().getClass().getSimpleName();
                }
            }
        }
        return "no such method";
    }

    private Object value(String text, Class<?> type) {
        if (type == boolean.class) {
            return Boolean.valueOf(text);
        }
        return names.containsKey(text) ? names.get(text) : Integer.valueOf(text);
    }
}
