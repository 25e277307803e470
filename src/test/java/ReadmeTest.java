import java.io.IOException;
import java.lang.reflect.InvocationTargetException;
import java.lang.reflect.Method;
import java.nio.file.Files;
import java.nio.file.Path;
import java.util.List;
import java.util.regex.Matcher;
import java.util.regex.Pattern;

/** The README's examples answer what it says, and each call of the face stands in its table. */
public final class ReadmeTest {
    private static final String NEW_OBJECT = "ForestTablets x = new ForestTablets();";
    private static final Pattern CALL = Pattern.compile("x\\.(\\w+)\\(([-0-9, ]*)\\);\\s*(?://.*)?");
    private static final Pattern ANSWER = Pattern.compile("// -> ([-.\\w]+)");
    private static final Due due = new Due();

    /** The folder of the README may be given; else it is the one that the test is run in. */
    public static void main(String[] args) throws IOException {
        Path readme = Path.of(args.length > 0 ? args[0] : ".", "README.md");
        List<String> lines = Files.readAllLines(readme);
        examples(lines);
        table(lines);
        due.end();
    }

    private static void examples(List<String> lines) {
        int blocks = 0;
        boolean inside = false;
        ForestTablets x = null;
        for (String line : lines) {
            if (line.startsWith("```")) {
                inside = line.equals("```java");
                blocks += inside ? 1 : 0;
            } else if (inside && line.equals(NEW_OBJECT)) {
                x = new ForestTablets();
            } else if (inside && !line.isEmpty()) {
                example(x, line);
            }
        }
        if (blocks == 0) {
            due.tell("README.md", "no example", "one at least");
        }
    }

    private static void example(ForestTablets x, String line) {
        Matcher call = CALL.matcher(line);
        if (x == null || !call.matches()) {
            due.tell(line, "nothing: it can't be read", "a call of x");
            return;
        }
        Matcher answer = ANSWER.matcher(line);
        String want = answer.find() ? answer.group(1) : "null";
        due.same("README.md: " + line, outcome(x, call.group(1), numbers(call.group(2))), want);
    }

    private static Object[] numbers(String text) {
        if (text.isBlank()) {
            return new Object[0];
        }
        return Pattern.compile(",").splitAsStream(text).map(n -> Integer.valueOf(n.trim())).toArray();
    }

    private static String outcome(ForestTablets x, String name, Object[] arguments) {
        try {
            for (Method m : ForestTablets.class.getMethods()) {
                if (m.getName().equals(name) && m.getParameterCount() == arguments.length) {
                    return String.valueOf(m.invoke(x, arguments));
                }
            }
            return "no such call";
        } catch (InvocationTargetException e) {
            return "throws." + e.getCause().getClass().getSimpleName();
        } catch (IllegalAccessException e) {
            return e.toString();
        }
    }

    private static void table(List<String> lines) {
        for (Method m : ForestTablets.class.getMethods()) {
            if (m.getDeclaringClass() == ForestTablets.class) {
                long rows = lines.stream().filter(line -> line.startsWith("| `" + m.getName() + "(")).count();
                due.is("rows of README.md for " + m.getName(), 1, () -> rows);
            }
        }
    }
}
