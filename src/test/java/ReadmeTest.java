import java.io.IOException;
import java.lang.reflect.Method;
import java.lang.reflect.Modifier;
import java.nio.file.Files;
import java.nio.file.Path;
import java.util.HashMap;
import java.util.List;
import java.util.Map;
import java.util.regex.Matcher;
import java.util.regex.Pattern;
import java.util.stream.Stream;

/** README.md: its example answers what it says, and it names each call and each test. Run from the project's root. */
public final class ReadmeTest {
    private static final Due due = new Due("ReadmeTest");
    private static final Pattern EXAMPLE = Pattern.compile("x\\.(\\w+)\\(([^)]*)\\); +// (-?\\d+|[A-Z]+)\\b.*");
    private static final Map<String, Long> NAMES = Map.of("NONE", (long) StormRunoff.NONE, "BAD", (long) StormRunoff.BAD,
            "STATE", (long) StormRunoff.STATE, "FULL", (long) StormRunoff.FULL, "NO", StormRunoff.NO);

    public static void main(String[] args) throws IOException, ReflectiveOperationException {
        String page = Files.readString(Path.of("README.md"));
        due.holds("there is something in it", !page.isBlank());
        example(page);
        for (Method m : StormRunoff.class.getDeclaredMethods()) {
            if (Modifier.isPublic(m.getModifiers())) {
                due.holds("the call " + m.getName() + " is named", page.matches("(?s).*`" + m.getName() + "\\([^`]*\\)`.*"));
            }
        }
        for (String name : NAMES.keySet()) {
            due.holds(name + " is named", page.contains("`" + name + "`"));
        }
        try (Stream<Path> files = Files.list(Path.of("src/test/java"))) {
            for (Path file : (Iterable<Path>) files::iterator) {
                String name = file.getFileName().toString().replace(".java", "");
                due.holds("the test " + name + " is named", !name.endsWith("Test") || page.contains("`" + name + "`"));
            }
        }
        due.holds("it says how the tests are run", page.contains(".ci/run"));
        due.end();
    }

    private static void example(String page) throws ReflectiveOperationException {
        Matcher block = Pattern.compile("(?s)```java\n(.*?)```").matcher(page);
        due.holds("there is an example", block.find());
        List<String> lines = block.group(1).lines().toList();
        due.holds("it makes an object", lines.get(0).equals("StormRunoff x = new StormRunoff();"));
        Map<String, Method> methods = new HashMap<>();
        for (Method m : StormRunoff.class.getMethods()) {
            methods.put(m.getName(), m);
        }
        StormRunoff x = new StormRunoff();
        for (String line : lines.subList(1, lines.size())) {
            Matcher call = EXAMPLE.matcher(line);
            due.holds("this is a call and its answer: " + line, call.matches());
            String told = call.group(3);
            long want = NAMES.containsKey(told) ? NAMES.get(told) : Long.parseLong(told);
            due.is(line, answer(x, methods.get(call.group(1)), call.group(2)), want);
        }
    }

    /** The example has int arguments alone, some of them signs. */
    private static long answer(StormRunoff x, Method method, String inside) throws ReflectiveOperationException {
        String[] numbers = inside.isBlank() ? new String[0] : inside.split(", ");
        Object[] arguments = new Object[numbers.length];
        for (int k = 0; k < numbers.length; k++) {
            boolean sign = numbers[k].startsWith("'");
            arguments[k] = sign ? (int) numbers[k].charAt(1) : Integer.parseInt(numbers[k]);
        }
        return ((Number) method.invoke(x, arguments)).longValue();
    }
}
