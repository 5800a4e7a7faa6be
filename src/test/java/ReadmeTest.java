import java.io.IOException;
import java.lang.reflect.InvocationTargetException;
import java.lang.reflect.Method;
import java.lang.reflect.Modifier;
import java.nio.file.Files;
import java.nio.file.Path;
import java.util.HashMap;
import java.util.List;
import java.util.Map;
import java.util.Set;
import java.util.TreeSet;
import java.util.regex.Matcher;
import java.util.regex.Pattern;

/**
 * Makes the calls of README.md's example, as they are written there, and compares the answers with those that stand
 * behind them. It is run in the project's own directory.
 */
public final class ReadmeTest {
    private static final String MAKING = "PolicyMonitor x = new PolicyMonitor();";
    private static final Pattern CALL = Pattern.compile(
            "(?:int (\\w+) = )?x\\.(\\w+)\\(([^()]*)\\); +// (-?\\d+|throws \\w+)(?:: .+)?");

    private final Check check = new Check();
    private final Map<String, Method> face = new HashMap<>();
    private final Map<String, Integer> names = new HashMap<>();
    private final Set<String> called = new TreeSet<>();
    private final Set<String> answers = new TreeSet<>();
    private PolicyMonitor x;

    public static void main(String[] args) throws IOException {
        ReadmeTest test = new ReadmeTest();
        List<String> readme = Files.readAllLines(Path.of("README.md"));
        test.runExample(readme);
        test.checkThatTheExampleShowsAll();
        test.checkMethodTable(readme);
        test.check.end();
    }

    private ReadmeTest() {
        for (Method m : PolicyMonitor.class.getDeclaredMethods()) {
            if (Modifier.isPublic(m.getModifiers())) {
                face.put(m.getName(), m);
            }
        }
    }

    private void runExample(List<String> readme) {
        boolean inside = false;
        for (String line : readme) {
            if (line.startsWith("```")) {
                inside = line.equals("```java");
            } else if (inside && !line.isEmpty() && !line.startsWith("//")) {
                runLine(line);
            }
        }
    }

    private void runLine(String line) {
        if (line.equals(MAKING)) {
            x = new PolicyMonitor();
            return;
        }
        Matcher call = CALL.matcher(line);
        if (x == null || !call.matches() || !face.containsKey(call.group(2))) {
            check.tell("README.md: this is no call with its answer: " + line);
            return;
        }
        String got = answer(face.get(call.group(2)), call.group(3));
        if (!got.equals(call.group(4))) {
            check.tell("README.md: the answer is " + got + ": " + line);
        }
        if (call.group(1) != null && !got.startsWith("throws")) {
            names.put(call.group(1), Integer.valueOf(got));
        }
        called.add(call.group(2));
        answers.add(got);
    }

    private String answer(Method method, String arguments) {
        String[] written = arguments.split(", ");
        Object[] given = new Object[written.length];
        try {
            for (int i = 0; i < given.length; i++) {
                given[i] = names.containsKey(written[i]) ? names.get(written[i]) : Integer.valueOf(written[i]);
            }
            return method.invoke(x, given).toString();
        } catch (InvocationTargetException e) {
            return "throws " + e.getCause().getClass().getSimpleName();
        } catch (IllegalAccessException | IllegalArgumentException e) {
            return "not to be had, as the call can't be made";
        }
    }

    /** An example that went missing, or whose lines were not found, would be right in every line. */
    private void checkThatTheExampleShowsAll() {
        if (!called.equals(face.keySet())) {
            check.tell("README.md: of the public methods the example calls only " + called);
        }
        String[] ends = {"throws IllegalArgumentException", "throws UnsupportedOperationException",
            "throws IllegalStateException"};
        for (String end : ends) {
            if (!answers.contains(end)) {
                check.tell("README.md: no call of the example " + end);
            }
        }
    }

    /** Each public method has a row that names its exceptions, in the order of its throws clause, or says nothing. */
    private void checkMethodTable(List<String> readme) {
        for (Method m : face.values()) {
            StringBuilder due = new StringBuilder();
            for (Class<?> type : m.getExceptionTypes()) {
                due.append(type.getSimpleName()).append(' ');
            }
            String told = exceptionsInRow(readme, m.getName());
            if (!told.equals(due.toString())) {
                check.tell("README.md: " + m.getName() + " throws, as it is told, " + told + "but really " + due);
            }
        }
    }

    private static String exceptionsInRow(List<String> readme, String name) {
        for (String line : readme) {
            if (line.startsWith("| `" + name + "(")) {
                String[] cells = line.split("\\|");
                Matcher named = Pattern.compile("`(\\w+Exception)`").matcher(cells[cells.length - 1]);
                StringBuilder told = new StringBuilder();
                while (named.find()) {
                    told.append(named.group(1)).append(' ');
                }
                return told.toString();
            }
        }
        return "(no row) ";
    }
}
