import java.io.IOException;
import java.lang.reflect.Method;
import java.lang.reflect.Modifier;
import java.nio.charset.StandardCharsets;
import java.nio.file.Files;
import java.nio.file.Path;
import java.util.ArrayList;
import java.util.HashMap;
import java.util.List;
import java.util.Map;
import java.util.regex.Matcher;
import java.util.regex.Pattern;

/**
 * README.md against the class: its examples answer what stands behind them, and its tables have a row
 * for each call of the face, with the exceptions that the call declares, in their order.
 */
public final class ReadmeTest {
    private static final Pattern EXAMPLE = Pattern.compile(
        "match\\.(\\w+)\\((.*?)\\); +// (?:throws (\\w+)|(-?\\d+))(?:: .+)?");
    private static final Pattern TABLE_ROW = Pattern.compile("\\| `(\\w+)\\((.*?)\\)` \\|.*");
    private static final Pattern THROWN = Pattern.compile("throws `(\\w+)`: ");
    private static final String NEW_OBJECT = "PloughingMatch match = new PloughingMatch();";
    private static final Checks CHECKS = new Checks();

    private PloughingMatch match = null;
    private final Map<String, Integer> examples = new HashMap<>();
    private final Map<String, String> rows = new HashMap<>();

    public static void main(String[] args) throws IOException {
        ReadmeTest test = new ReadmeTest();
        test.read(Files.readAllLines(Path.of("README.md"), StandardCharsets.UTF_8));
        for (Method method : PloughingMatch.class.getDeclaredMethods()) {
            if (Modifier.isPublic(method.getModifiers())) {
                test.tellsOf(method);
            }
        }
        CHECKS.due("rows of the tables", test.rows.size(), test.examples.size());
        CHECKS.end();
    }

    private void read(List<String> lines) {
        boolean isJava = false;
        for (String line : lines) {
            if (line.startsWith("```")) {
                isJava = line.equals("```java");
            } else if (isJava) {
                tryExample(line);
            } else {
                keepRow(line);
            }
        }
    }

    private void tryExample(String line) {
        if (line.equals(NEW_OBJECT)) {
            match = new PloughingMatch();
            return;
        }
        Matcher parts = EXAMPLE.matcher(line);
        if (match == null || !parts.matches()) {
            CHECKS.fail("this is no example: " + line);
            return;
        }
        examples.merge(parts.group(1), 1, Integer::sum);
        String want = parts.group(3) != null ? parts.group(3) : parts.group(4);
        String got = Calls.answer(match, parts.group(1), parts.group(2));
        if (!got.equals(want)) {
            CHECKS.fail(line + " answered " + got);
        }
    }

    private void keepRow(String line) {
        Matcher parts = TABLE_ROW.matcher(line);
        if (!parts.matches()) {
            return;
        }
        int parameters = parts.group(2).isEmpty() ? 0 : parts.group(2).split(", ").length;
        List<String> thrown = new ArrayList<>();
        for (Matcher found = THROWN.matcher(line); found.find();) {
            thrown.add(found.group(1));
        }
        if (rows.put(parts.group(1), parameters + " " + thrown) != null) {
            CHECKS.fail("the tables have two rows for " + parts.group(1));
        }
    }

    private void tellsOf(Method method) {
        String name = method.getName();
        List<String> thrown = new ArrayList<>();
        for (Class<?> kind : method.getExceptionTypes()) {
            thrown.add(kind.getSimpleName());
        }
        String want = method.getParameterCount() + " " + thrown;
        if (!want.equals(rows.get(name))) {
            CHECKS.fail("the row of " + name + " has " + rows.get(name) + ", due is " + want);
        }
        if (!examples.containsKey(name)) {
            CHECKS.fail("no example has " + name);
        }
    }
}
