import java.io.File;
import java.io.IOException;
import java.lang.reflect.InvocationTargetException;
import java.lang.reflect.Method;
import java.nio.file.Files;
import java.nio.file.Path;
import java.util.ArrayList;
import java.util.HashSet;
import java.util.List;
import java.util.Set;
import java.util.TreeSet;
import java.util.regex.Matcher;
import java.util.regex.Pattern;

/** README.md as it stands: its run of calls answers what it says there, and its table has every test. */
public final class ReadmeTest {
    private static final Pattern TOLD = Pattern.compile("tell\\(x, \"([^\"]*)\"\\);.*");
    private static final Pattern CALL = Pattern.compile("x\\.(\\w+)\\(([^)]*)\\);(?:\\s*// (-?\\w+).*)?");
    private static final Pattern TEST = Pattern.compile("\\| `(\\w+)` \\|.*");

    public static void main(String[] args) throws IOException, IllegalAccessException {
        List<String> lines = Files.readAllLines(Path.of("README.md"));
        runAnswersAsTold(lines);
        tableHasEveryTest(lines);
        Check.end();
    }

    private static void runAnswersAsTold(List<String> lines) throws IllegalAccessException {
        DrillRows x = new DrillRows();
        Set<String> called = new HashSet<>();
        for (String line : lines) {
            Matcher told = TOLD.matcher(line);
            Matcher call = CALL.matcher(line);
            if (told.matches()) {
                Check.sign(x, told.group(1));
            } else if (call.matches()) {
                String due = call.group(3) == null ? "null" : call.group(3);
                String got = answer(x, methodNamed(call.group(1)), call.group(2));
                called.add(call.group(1));
                if (!got.equals(due)) {
                    Check.report(line + " answered " + got);
                }
            } else if (line.startsWith("x.") || line.startsWith("tell(")) {
                Check.report("a call that can't be read: " + line);
            }
        }
        for (Method method : DrillRows.class.getMethods()) {
            // The run calls sign by tell.
            boolean shown = called.contains(method.getName()) || method.getName().equals("sign");
            if (method.getDeclaringClass() == DrillRows.class && !shown) {
                Check.report("README.md has no call of " + method.getName());
            }
        }
    }

    private static Method methodNamed(String name) {
        for (Method method : DrillRows.class.getMethods()) {
            if (method.getDeclaringClass() == DrillRows.class && method.getName().equals(name)) {
                return method;
            }
        }
        throw new IllegalStateException("README.md calls " + name + ", which is no method");
    }

    private static String answer(DrillRows x, Method method, String arguments) throws IllegalAccessException {
        List<Object> values = new ArrayList<>();
        for (String argument : arguments.isEmpty() ? new String[0] : arguments.split(", ")) {
            values.add(Integer.valueOf(argument));
        }
        try {
            return String.valueOf(method.invoke(x, values.toArray()));
        } catch (InvocationTargetException e) {
            return e.getCause().getClass().getSimpleName();
        }
    }

    private static void tableHasEveryTest(List<String> lines) {
        Set<String> inTable = new TreeSet<>();
        for (String line : lines) {
            Matcher test = TEST.matcher(line);
            if (test.matches() && test.group(1).endsWith("Test")) {
                inTable.add(test.group(1));
            }
        }
        Set<String> inFolder = new TreeSet<>();
        String[] files = new File("src/test/java").list();
        for (String file : files == null ? new String[0] : files) {
            if (file.endsWith("Test.java")) {
                inFolder.add(file.substring(0, file.length() - ".java".length()));
            }
        }
        if (!inTable.equals(inFolder)) {
            Check.report("README.md has the tests " + inTable + ", the folder has " + inFolder);
        }
    }
}
