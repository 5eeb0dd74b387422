import java.io.IOException;
import java.lang.reflect.Method;
import java.nio.file.Files;
import java.nio.file.Path;
import java.util.Map;
import java.util.Set;
import java.util.TreeMap;
import java.util.TreeSet;
import java.util.regex.Matcher;
import java.util.regex.Pattern;

/** The examples of README.md answer as they say, and its table has every call of the face. */
public final class ReadmeTest {
    private static final Pattern BLOCK = Pattern.compile("```java\n(.*?)```", Pattern.DOTALL);
    private static final Pattern CALL = Pattern.compile("house\\.(\\w+)\\(([^)]*)\\); *// (-?\\d+)(: .*)?");
    private static final Pattern ROW = Pattern.compile("^\\| `(\\w+)\\(([^)]*)\\)` \\|.*", Pattern.MULTILINE);

    private static final Map<String, Method> FACE = new TreeMap<>();
    private static final Set<String> SHOWN = new TreeSet<>();

    public static void main(String[] args) throws IOException, ReflectiveOperationException {
        for (Method method : CrownTable.class.getMethods()) {
            if (method.getDeclaringClass() == CrownTable.class) {
                FACE.put(method.getName(), method);
            }
        }
        String readme = Files.readString(Path.of("README.md"));
        examples(readme);
        table(readme);
        Check.due("how to run the tests", readme.contains("\n    .ci/run\n"));
        Check.finish();
    }

    private static void examples(String readme) throws ReflectiveOperationException {
        int blocks = 0;
        for (Matcher block = BLOCK.matcher(readme); block.find(); blocks++) {
            example(block.group(1).split("\n"));
        }
        Check.due("examples", blocks, 2);
        Check.due("every call is in an example: " + SHOWN, SHOWN.equals(FACE.keySet()));
    }

    private static void example(String[] lines) throws ReflectiveOperationException {
        Check.due("an example begins with a new house", lines[0].equals("CrownTable house = new CrownTable();"));
        CrownTable house = new CrownTable();
        for (int i = 1; i < lines.length; i++) {
            Matcher call = CALL.matcher(lines[i]);
            boolean told = call.matches();
            Check.due("a call with its answer, or nothing: " + lines[i], told || lines[i].isEmpty());
            if (told) {
                Check.due("README: " + lines[i], answer(house, call.group(1), call.group(2)), Long.parseLong(call.group(3)));
                SHOWN.add(call.group(1));
            }
        }
    }

    private static long answer(CrownTable house, String name, String numbers) throws ReflectiveOperationException {
        String[] parts = numbers.isEmpty() ? new String[0] : numbers.split(", ");
        Object[] values = new Object[parts.length];
        for (int i = 0; i < parts.length; i++) {
            values[i] = Integer.decode(parts[i]);
        }
        return ((Number) FACE.get(name).invoke(house, values)).longValue();
    }

    private static void table(String readme) {
        Set<String> missing = new TreeSet<>(FACE.keySet());
        for (Matcher row = ROW.matcher(readme); row.find();) {
            Check.due("one row of " + row.group(1), missing.remove(row.group(1)));
            int numbers = row.group(2).isEmpty() ? 0 : row.group(2).split(", ").length;
            Check.due("numbers of " + row.group(1), numbers, FACE.get(row.group(1)).getParameterCount());
        }
        Check.due("calls without a row: " + missing, missing.isEmpty());
    }
}
