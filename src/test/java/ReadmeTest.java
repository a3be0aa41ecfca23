import java.io.IOException;
import java.lang.reflect.Method;
import java.lang.reflect.Modifier;
import java.nio.file.Files;
import java.nio.file.Path;
import java.util.List;
import java.util.regex.Matcher;
import java.util.regex.Pattern;
import java.util.stream.Collectors;
import java.util.stream.Stream;

/** README.md is not left behind: its example answers as it says, and it names every call and every test. */
public final class ReadmeTest {
    private static final Path README = Path.of("README.md");
    private static final Path TESTS = Path.of("src/test/java");
    private static final Pattern EXAMPLE = Pattern.compile("(?s)```java\n(.*?)```");
    private static final Pattern TEXT = Pattern.compile("for \\(char c : \"(.*)\"\\.toCharArray\\(\\)\\) \\{");
    private static final Pattern CALL = Pattern.compile("x\\.(\\w+)\\((.*)\\);\\s+// (-?\\d+|[A-Z]+): .+");
    private static final List<String> FRAME = List.of("SaidMine x = new SaidMine();", "x.write(c);", "}");

    private static final Check CHECK = new Check();

    private ReadmeTest() { }

    public static void main(String[] args) throws IOException, ReflectiveOperationException {
        String readme = Files.readString(README);
        example(readme);
        namesCalls(readme);
        namesTests(readme);
        CHECK.end("ReadmeTest");
    }

    private static void example(String readme) throws ReflectiveOperationException {
        Matcher m = EXAMPLE.matcher(readme);
        CHECK.isTrue("there is an example", m.find());
        SaidMine x = new SaidMine();
        int calls = 0;
        for (String line : m.group(1).split("\n")) {
            String told = line.trim();
            Matcher text = TEXT.matcher(told);
            Matcher call = CALL.matcher(told);
            if (text.matches()) {
                Check.write(x, text.group(1));
            } else if (call.matches()) {
                calls++;
                CHECK.due(told, answer(x, call.group(1), call.group(2)), number(call.group(3)));
            } else {
                CHECK.isTrue("a line of the example that is no call: " + told, FRAME.contains(told));
            }
        }
        CHECK.isTrue("the example has calls", calls > 0);
    }

    private static long answer(SaidMine x, String name, String told) throws ReflectiveOperationException {
        String[] parts = told.isEmpty() ? new String[0] : told.split(", ");
        Method method = method(name);
        Class<?>[] kinds = method.getParameterTypes();
        Object[] values = new Object[parts.length];
        for (int i = 0; i < parts.length; i++) {
            values[i] = kinds[i] == boolean.class ? Boolean.valueOf(parts[i])
                : kinds[i] == long.class ? Long.valueOf(parts[i]) : (Object) Integer.valueOf(parts[i]);
        }
        return ((Number) method.invoke(x, values)).longValue();
    }

    private static Method method(String name) throws NoSuchMethodException {
        for (Method m : SaidMine.class.getDeclaredMethods()) {
            if (m.getName().equals(name) && Modifier.isPublic(m.getModifiers())) {
                return m;
            }
        }
        throw new NoSuchMethodException(name);
    }

    private static long number(String told) throws ReflectiveOperationException {
        return Character.isLetter(told.charAt(0)) ? SaidMine.class.getField(told).getInt(null) : Long.parseLong(told);
    }

    private static void namesCalls(String readme) {
        String table = readme.lines().filter(line -> line.startsWith("|")).collect(Collectors.joining("\n"));
        for (Method m : SaidMine.class.getDeclaredMethods()) {
            if (Modifier.isPublic(m.getModifiers())) {
                CHECK.isTrue("README.md names " + m.getName(), table.contains("`" + m.getName() + "`"));
            }
        }
    }

    private static void namesTests(String readme) throws IOException {
        try (Stream<Path> files = Files.list(TESTS)) {
            for (Path file : files.collect(Collectors.toList())) {
                String name = file.getFileName().toString().replace(".java", "");
                CHECK.isTrue("README.md names " + name, !name.endsWith("Test") || readme.contains("- `" + name + "`"));
            }
        }
        CHECK.isTrue("README.md says how the tests are run", readme.contains("\n    .ci/run\n"));
    }
}
