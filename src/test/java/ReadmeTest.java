import java.io.IOException;
import java.lang.reflect.Method;
import java.lang.reflect.Modifier;
import java.nio.file.Files;
import java.nio.file.Path;
import java.util.ArrayList;
import java.util.Arrays;
import java.util.HashMap;
import java.util.List;
import java.util.Map;
import java.util.Set;
import java.util.TreeSet;
import java.util.regex.Matcher;
import java.util.regex.Pattern;

/** README.md tells of each call of the face, and its examples answer what it says of them. */
public final class ReadmeTest {
    private static final Due DUE = new Due();
    private static final Pattern MADE =
        Pattern.compile("RollbackPair (\\w+) = new RollbackPair\\(([^)]*)\\);");
    private static final Pattern CALLED =
        Pattern.compile("(\\w+)\\.(\\w+)\\(([^)]*)\\);\\s+// ([^:]+)(: .*)?");

    private final Map<String, RollbackPair> pairs = new HashMap<>();
    private final Set<String> called = new TreeSet<>();

    public static void main(String[] args) throws IOException, ReflectiveOperationException {
        List<String> lines = Files.readAllLines(Path.of("README.md"));
        ReadmeTest test = new ReadmeTest();
        for (String line : examples(lines)) {
            test.runLine(line);
        }
        for (String name : namesOfTheFace()) {
            DUE.same("an example calls " + name, test.called.contains(name), true);
            long rows = lines.stream().filter(line -> line.startsWith("| `" + name + "(")).count();
            DUE.same("rows of a table that tell of " + name, rows, 1);
        }
        DUE.end();
    }

    private static Set<String> namesOfTheFace() {
        Set<String> names = new TreeSet<>();
        for (Method method : RollbackPair.class.getDeclaredMethods()) {
            if (Modifier.isPublic(method.getModifiers())) {
                names.add(method.getName());
            }
        }
        return names;
    }

    /** The lines of all blocks of Java. */
    private static List<String> examples(List<String> lines) {
        List<String> found = new ArrayList<>();
        boolean inside = false;
        for (String line : lines) {
            if (line.startsWith("```")) {
                inside = line.equals("```java");
            } else if (inside) {
                found.add(line);
            }
        }
        return found;
    }

    private void runLine(String line) throws ReflectiveOperationException {
        Matcher made = MADE.matcher(line);
        if (made.matches()) {
            Object[] args = numbers(made.group(2));
            pairs.put(made.group(1),
                RollbackPair.class.getConstructor(ints(args.length)).newInstance(args));
            return;
        }
        Matcher call = CALLED.matcher(line);
        DUE.same("an example can be read: " + line, call.matches(), true);
        if (call.matches()) {
            Object[] args = numbers(call.group(3));
            Method method = RollbackPair.class.getMethod(call.group(2), ints(args.length));
            String got = String.valueOf(method.invoke(pairs.get(call.group(1)), args));
            DUE.same(line + " answered " + got, got.equals(call.group(4)), true);
            called.add(call.group(2));
        }
    }

    private static Object[] numbers(String list) {
        String[] texts = list.split(", ");
        Object[] numbers = new Object[texts.length];
        for (int i = 0; i < texts.length; i++) {
            numbers[i] = Integer.valueOf(texts[i]);
        }
        return numbers;
    }

    private static Class<?>[] ints(int count) {
        Class<?>[] types = new Class<?>[count];
        Arrays.fill(types, int.class);
        return types;
    }
}
