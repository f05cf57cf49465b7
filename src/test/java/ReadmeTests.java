import java.io.IOException;
import java.lang.reflect.Method;
import java.lang.reflect.Modifier;
import java.nio.file.Files;
import java.nio.file.Path;
import java.util.Arrays;
import java.util.Set;
import java.util.TreeSet;
import java.util.regex.Matcher;
import java.util.regex.Pattern;

/** The example of README.md answers what it says there, and it names every call of the face. */
public final class ReadmeTests {
    private static final Pattern CALL = Pattern.compile("equaliser\\.(\\w+)\\(([^)]*)\\);\\s*(?://\\s*(-?\\d+).*)?");
    private static final String FIRST_LINE = "TaxEqualiser equaliser = new TaxEqualiser();";

    private static int passed = 0;
    private static int failed = 0;

    private ReadmeTests() {
    }

    public static void main(String[] args) throws IOException, ReflectiveOperationException {
        Set<String> called = new TreeSet<>();
        runExample(exampleText(), called);
        everyCallIsNamed(called);
        System.out.println(passed + " passed, " + failed + " failed");
        if (failed != 0) {
            System.exit(1);
        }
    }

    private static void holds(String what, boolean ok) {
        if (ok) {
            passed++;
        } else {
            failed++;
            System.out.println("does not hold: " + what);
        }
    }

    private static String exampleText() throws IOException {
        String text = Files.readString(Path.of(System.getProperty("readme")));
        String begin = "```java\n";
        int from = text.indexOf(begin);
        int to = text.indexOf("```", from + begin.length());
        holds("there is an example", from >= 0 && to >= 0);
        return from < 0 || to < 0 ? "" : text.substring(from + begin.length(), to);
    }

    private static void runExample(String example, Set<String> called) throws ReflectiveOperationException {
        String[] lines = example.split("\n");
        holds("the example begins with a new object", lines[0].equals(FIRST_LINE));
        TaxEqualiser equaliser = new TaxEqualiser();
        for (int i = 1; i < lines.length; i++) {
            if (!lines[i].isBlank()) {
                runLine(equaliser, lines[i], called);
            }
        }
    }

    private static void runLine(TaxEqualiser equaliser, String line, Set<String> called)
            throws ReflectiveOperationException {
        Matcher call = CALL.matcher(line);
        if (!call.matches()) {
            holds("a call: " + line, false);
            return;
        }
        Object[] arguments = numbers(call.group(2));
        Class<?>[] kinds = new Class<?>[arguments.length];
        Arrays.fill(kinds, int.class);
        Method method = TaxEqualiser.class.getMethod(call.group(1), kinds);
        called.add(method.getName());
        Object answer = method.invoke(equaliser, arguments);
        String got = answer == null ? null : answer.toString();
        String told = call.group(3);
        holds(line + " answered " + got, told == null ? got == null : told.equals(got));
    }

    private static Object[] numbers(String list) {
        if (list.isBlank()) {
            return new Object[0];
        }
        String[] parts = list.split(",");
        Object[] numbers = new Object[parts.length];
        for (int i = 0; i < parts.length; i++) {
            numbers[i] = Integer.valueOf(parts[i].trim());
        }
        return numbers;
    }

    private static void everyCallIsNamed(Set<String> called) {
        for (Method each : TaxEqualiser.class.getDeclaredMethods()) {
            if (Modifier.isPublic(each.getModifiers())) {
                holds("the example has " + each.getName(), called.contains(each.getName()));
            }
        }
    }
}
