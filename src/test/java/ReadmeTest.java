import java.io.IOException;
import java.lang.reflect.InvocationTargetException;
import java.lang.reflect.Method;
import java.lang.reflect.Modifier;
import java.nio.file.Files;
import java.nio.file.Path;
import java.util.List;
import java.util.Set;
import java.util.TreeSet;
import java.util.regex.Matcher;
import java.util.regex.Pattern;

/** README.md: its example answers what it says there, and each call of the face has its row. */
public final class ReadmeTest {
    private static final Path README = Path.of("README.md");
    private static final Pattern EXAMPLE =
            Pattern.compile("sea\\.(\\w+)\\((.*)\\); +// (-?\\w+): .*");
    private static final Pattern ROW =
            Pattern.compile("\\| `(\\w+)\\((.*)\\)` \\| [^|]+ \\| ([^|]*)\\|");

    public static void main(String[] args) throws IOException, IllegalAccessException {
        List<String> lines = Files.readAllLines(README);
        ShiftIsles sea = new ShiftIsles();
        int calls = 0;
        Set<String> rows = new TreeSet<>();
        for (String line : lines) {
            Matcher example = EXAMPLE.matcher(line);
            if (example.matches()) {
                calls++;
                Check.same(line, answer(sea, example.group(1), values(example.group(2))),
                        example.group(3));
            }
            Matcher row = ROW.matcher(line);
            if (row.matches()) {
                Check.yes("one row alone: " + line, rows.add(row.group(1)));
                Check.same(line, inOrder(row.group(3)),
                        declared(named(row.group(1), values(row.group(2)).length)));
            } else {
                Check.no("a row that is not understood: " + line, line.startsWith("| `"));
            }
        }
        Check.eq("calls of the example", calls, lines.stream().filter(l -> l.startsWith("sea.")).count());
        Check.yes("there is an example", calls > 10);
        Check.eq("rows", rows.size(), 24);
        Check.end();
    }

    private static String[] values(String list) {
        return list.isEmpty() ? new String[0] : list.split(", ");
    }

    private static Method named(String name, int parameters) {
        for (Method method : ShiftIsles.class.getDeclaredMethods()) {
            if (Modifier.isPublic(method.getModifiers()) && method.getName().equals(name)
                    && method.getParameterCount() == parameters) {
                return method;
            }
        }
        throw new AssertionError("no method " + name + " with " + parameters + " arguments");
    }

    private static String answer(ShiftIsles sea, String name, String[] values)
            throws IllegalAccessException {
        Method method = named(name, values.length);
        Object[] arguments = new Object[values.length];
        for (int i = 0; i < values.length; i++) {
            if (method.getParameterTypes()[i] == long.class) {
                arguments[i] = Long.parseLong(values[i].replace("L", ""));
            } else {
                arguments[i] = Integer.parseInt(values[i]);
            }
        }
        try {
            return String.valueOf(method.invoke(sea, arguments));
        } catch (InvocationTargetException e) {
            return e.getCause().getClass().getSimpleName();
        }
    }

    private static String declared(Method method) {
        StringBuilder text = new StringBuilder();
        for (Class<?> exception : method.getExceptionTypes()) {
            text.append(exception == Check.BOUNDS ? "Bounds " : exception == Check.ARGUMENT
                    ? "Argument " : exception == Check.STATE ? "State " : "another ");
        }
        return text.toString();
    }

    private static String inOrder(String cell) {
        StringBuilder text = new StringBuilder();
        for (Matcher each = Pattern.compile("(\\w+): ").matcher(cell); each.find();) {
            text.append(each.group(1)).append(' ');
        }
        return text.toString();
    }
}
