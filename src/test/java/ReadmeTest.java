import java.lang.reflect.Method;
import java.lang.reflect.Modifier;
import java.nio.file.Files;
import java.nio.file.Path;
import java.util.Arrays;
import java.util.List;
import java.util.regex.Matcher;
import java.util.regex.Pattern;

/** Holds README.md to the program: its example's answers, and its tables' calls. */
public final class ReadmeTest {
    private static final Pattern CALL = Pattern.compile("x\\.(\\w+)\\(([-\\d, ]*)\\);\\s*// (-?\\d+)(:.*)?");
    private static final Pattern ROW = Pattern.compile("\\| `(\\w+)\\(([\\w, ]*)\\)` \\|.*");

    private static int wrong = 0;

    private static void fault(String words) {
        wrong++;
        System.out.println(words);
    }

    public static void main(String[] args) throws Exception {
        List<String> lines = Files.readAllLines(Path.of("README.md"));
        example(lines);
        tables(lines);
        System.out.println(wrong == 0 ? "readme: holds" : wrong + " faults in README.md");
        if (wrong != 0) {
            System.exit(1);
        }
    }

    private static void example(List<String> lines) throws Exception {
        PointerSweep x = new PointerSweep();
        int calls = 0;
        for (String line : lines) {
            if (!line.startsWith("x.")) {
                continue;
            }
            Matcher call = CALL.matcher(line);
            if (!call.matches()) {
                fault("no call with its answer: " + line);
                continue;
            }
            calls++;
            int got = answer(x, call.group(1), numbers(call.group(2)));
            if (got != Integer.parseInt(call.group(3))) {
                fault("answered " + got + ": " + line);
            }
        }
        if (calls == 0) {
            fault("there is no example");
        }
    }

    private static Object[] numbers(String text) {
        return parts(text).stream().map(Integer::valueOf).toArray();
    }

    private static List<String> parts(String text) {
        return text.isBlank() ? List.of() : Arrays.asList(text.trim().split(",\\s*"));
    }

    private static int answer(PointerSweep x, String name, Object[] values) throws Exception {
        Class<?>[] types = new Class<?>[values.length];
        Arrays.fill(types, int.class);
        return (Integer) PointerSweep.class.getMethod(name, types).invoke(x, values);
    }

    private static void tables(List<String> lines) {
        for (Method method : PointerSweep.class.getDeclaredMethods()) {
            if (!Modifier.isPublic(method.getModifiers())) {
                continue;
            }
            long rows = lines.stream().filter(line -> isRowOf(line, method)).count();
            if (rows != 1) {
                fault(rows + " rows for " + method.getName() + "()");
            }
        }
    }

    private static boolean isRowOf(String line, Method method) {
        Matcher row = ROW.matcher(line);
        return row.matches() && row.group(1).equals(method.getName())
                && parts(row.group(2)).size() == method.getParameterCount();
    }
}
