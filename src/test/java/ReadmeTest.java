import java.lang.reflect.Method;
import java.lang.reflect.Modifier;
import java.nio.file.Files;
import java.nio.file.Path;
import java.util.List;
import java.util.regex.Matcher;
import java.util.regex.Pattern;

/** What README.md shows of the class is true: its example is run, and no call is missing there. */
public final class ReadmeTest {
    private static final Path PLACE = Path.of("README.md");
    private static final Pattern MAKING = Pattern.compile("TwinLedgers x = new TwinLedgers\\((.*?)\\);.*");
    private static final Pattern CALL = Pattern.compile("x\\.(\\w+)\\((.*?)\\); *// (-?\\d+)(:.*)?");

    private static int wrong = 0;
    private static int made = 0;

    public static void main(String[] args) throws Exception {
        List<String> lines = Files.readAllLines(PLACE);
        runExample(lines);
        for (Method method : TwinLedgers.class.getDeclaredMethods()) {
            if (Modifier.isPublic(method.getModifiers())) {
                dueRow(method, lines);
            }
        }
        if (made == 0) {
            fault("README.md has no example");
        }
        System.out.println(wrong == 0 ? "README.md is true" : wrong + " faults");
        if (wrong != 0) {
            System.exit(1);
        }
    }

    private static void runExample(List<String> lines) throws Exception {
        int first = lines.indexOf("```java") + 1;
        TwinLedgers x = null;
        for (int i = first; i < lines.size() && !lines.get(i).equals("```"); i++) {
            Matcher making = MAKING.matcher(lines.get(i));
            Matcher call = CALL.matcher(lines.get(i));
            if (making.matches()) {
                x = new TwinLedgers(Integer.parseInt(making.group(1)));
            } else if (call.matches() && x != null) {
                dueAnswer(x, call);
            } else {
                fault("not a call with its answer: " + lines.get(i));
            }
        }
    }

    private static void dueAnswer(TwinLedgers x, Matcher call) throws Exception {
        Method method = methodNamed(call.group(1));
        if (method == null) {
            fault("there is no " + call.group(1));
            return;
        }
        made++;
        Object got = method.invoke(x, values(call.group(2), method));
        if (!String.valueOf(got).equals(call.group(3))) {
            fault(call.group() + " answered " + got);
        }
    }

    private static Method methodNamed(String name) {
        for (Method method : TwinLedgers.class.getMethods()) {
            if (method.getName().equals(name)) {
                return method;
            }
        }
        return null;
    }

    private static Object[] values(String written, Method method) {
        String[] parts = written.isEmpty() ? new String[0] : written.split(", ");
        Object[] values = new Object[parts.length];
        for (int i = 0; i < parts.length; i++) {
            boolean truth = method.getParameterTypes()[i] == boolean.class;
            values[i] = truth ? (Object) Boolean.valueOf(parts[i]) : (Object) Integer.valueOf(parts[i]);
        }
        return values;
    }

    /** The row of a call has as many parameters as the call. */
    private static void dueRow(Method method, List<String> lines) {
        String start = "| `" + method.getName() + "(";
        for (String line : lines) {
            if (line.startsWith(start)) {
                String names = line.substring(start.length(), line.indexOf(")`"));
                int count = names.isEmpty() ? 0 : names.split(", ").length;
                if (count != method.getParameterCount()) {
                    fault("the row of " + method.getName() + " has " + count + " parameters");
                }
                return;
            }
        }
        fault("no row for " + method.getName());
    }

    private static void fault(String what) {
        wrong++;
        System.out.println(what);
    }
}
