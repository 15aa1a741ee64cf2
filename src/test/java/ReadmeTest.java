import java.io.IOException;
import java.lang.reflect.InvocationTargetException;
import java.lang.reflect.Method;
import java.lang.reflect.Modifier;
import java.nio.file.Files;
import java.nio.file.Path;
import java.util.HashMap;
import java.util.Map;
import java.util.TreeSet;
import java.util.regex.Matcher;
import java.util.regex.Pattern;

/** The example in README.md answers what stands behind its calls, and leaves out no method of the face. */
public final class ReadmeTest {
    private static final String MADE = "LoadStoreRows x = new LoadStoreRows();";
    private static final Pattern EXAMPLE = Pattern.compile("```java\n(.*?)```", Pattern.DOTALL);
    private static final Pattern CALL =
            Pattern.compile("(?:int (\\w+) = )?x\\.(\\w+)\\(([^()]*)\\); +// ([^:]+): \\S.*");

    private final LoadStoreRows x = new LoadStoreRows();
    private final Map<String, Integer> kept = new HashMap<>();
    private final TreeSet<String> called = new TreeSet<>();

    public static void main(String[] args) throws IOException {
        String readme = Files.readString(Path.of("README.md"));
        Matcher example = EXAMPLE.matcher(readme);
        Check.due("README.md has an example", example.find(), true);
        new ReadmeTest().follow(example.group(1).split("\n"));
        Check.due("README.md has no second example", example.find(), false);
        Check.due("README.md names the command for the tests", readme.contains("\n    .ci/run\n"), true);
        Check.due("the command can be run", Files.isExecutable(Path.of(".ci", "run")), true);
        Check.end();
    }

    private void follow(String[] lines) {
        Check.due("first line", lines[0], MADE);
        for (int i = 1; i < lines.length; i++) {
            Matcher call = CALL.matcher(lines[i]);
            if (call.matches()) {
                answered(lines[i], call);
            } else {
                Check.due("a line that is no call", lines[i], "");
            }
        }
        Check.due("methods in the example", called, face());
    }

    private void answered(String line, Matcher call) {
        Object got = answer(call.group(2), arguments(call.group(3)));
        called.add(call.group(2));
        Check.due(line, got, due(call.group(4)));
        if (call.group(1) != null && got instanceof Integer number) {
            kept.put(call.group(1), number);
        }
    }

    /** The answer, or "throws" with the name of the very class that is thrown. */
    private Object answer(String name, Object[] arguments) {
        for (Method method : LoadStoreRows.class.getMethods()) {
            if (method.getName().equals(name) && method.getParameterCount() == arguments.length) {
                try {
                    return method.invoke(x, arguments);
                } catch (InvocationTargetException e) {
                    return "throws " + e.getCause().getClass().getSimpleName();
                } catch (IllegalAccessException e) {
                    return "can not be called";
                }
            }
        }
        return "no such method";
    }

    private Object[] arguments(String written) {
        if (written.isEmpty()) {
            return new Object[0];
        }
        String[] parts = written.split(", ");
        Object[] arguments = new Object[parts.length];
        for (int i = 0; i < parts.length; i++) {
            arguments[i] = kept.containsKey(parts[i]) ? kept.get(parts[i]) : Integer.decode(parts[i]);
        }
        return arguments;
    }

    private static Object due(String written) {
        if (written.equals("true") || written.equals("false")) {
            return Boolean.valueOf(written);
        }
        return written.startsWith("throws ") ? written : Integer.decode(written);
    }

    private static TreeSet<String> face() {
        TreeSet<String> names = new TreeSet<>();
        for (Method method : LoadStoreRows.class.getDeclaredMethods()) {
            if (Modifier.isPublic(method.getModifiers())) {
                names.add(method.getName());
            }
        }
        return names;
    }
}
