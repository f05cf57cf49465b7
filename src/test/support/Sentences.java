import java.io.IOException;
import java.nio.file.Files;
import java.nio.file.Path;
import java.util.LinkedHashMap;
import java.util.LinkedHashSet;
import java.util.Map;
import java.util.Set;

/**
 * Tests that stand each behind the sentence of the document that they hold to. A sentence without
 * a test, or a test whose sentence the document does not have, is a failure of its own.
 */
final class Sentences {
    static final Class<?> RANGE = IllegalArgumentException.class;
    static final Class<?> NONE_SUCH = IndexOutOfBoundsException.class;
    static final Class<?> FULL = IllegalStateException.class;
    static final int LEAST = Integer.MIN_VALUE;
    static final int MOST = Integer.MAX_VALUE;

    private static final Map<String, Test> TESTS = new LinkedHashMap<>();
    private static final Test NO_TEST = () -> { };

    private static String section = "";
    private static String running = "";
    private static int checks = 0;
    private static int failures = 0;

    private Sentences() {
    }

    interface Test {
        void run();
    }

    interface Call {
        void on(TaxEqualiser x);
    }

    interface ArgumentCall {
        void on(TaxEqualiser x, int argument);
    }

    // ---- telling the tests

    static void section(String title) {
        section = title;
    }

    static void sentence(String text, Test test) {
        String key = section + " | " + text;
        if (TESTS.put(key, test) != null) {
            fail("told twice: " + key);
        }
    }

    static void namesNoBoundary(String text) {
        sentence(text, NO_TEST);
    }

    // ---- checks

    static void due(String what, long got, long want) {
        check(got == want, what + " answered " + got + ", due is " + want);
    }

    static void accepted(Worlds.Maker maker, Call call) {
        String thrown = thrownBy(maker.make(), call);
        check(thrown.isEmpty(), "threw " + thrown + ", due is no throw");
    }

    /** The call throws by itself, what is due and nothing else, and it changes nothing. */
    static void refused(Class<?> want, Worlds.Maker maker, Call call) {
        TaxEqualiser x = maker.make();
        throwsOnly(want, x, call);
        String before = Worlds.answersOf(maker.make());
        String after = Worlds.answersOf(x);
        check(after.equals(before), "a call that throws changed the answers from\n" + before + "to\n" + after);
    }

    static void throwsOnly(Class<?> want, TaxEqualiser x, Call call) {
        String thrown = thrownBy(x, call);
        check(thrown.equals(want.getName()), "threw " + (thrown.isEmpty() ? "nothing" : thrown) + ", due is " + want);
    }

    static void argument(int least, int most, ArgumentCall call) {
        accepted(Worlds::twoPeople, x -> call.on(x, least));
        accepted(Worlds::twoPeople, x -> call.on(x, most));
        int[] outside = {least - 1, most + 1, LEAST, MOST};
        for (int each : outside) {
            refused(RANGE, Worlds::twoPeople, x -> call.on(x, each));
        }
    }

    static void noSuchPerson(ArgumentCall call) {
        refusedWithoutPerson(call);
        accepted(Worlds::twoPeople, x -> call.on(x, 0));
        accepted(Worlds::twoPeople, x -> call.on(x, 1));
        accepted(Worlds::full, x -> call.on(x, 9));
    }

    static void refusedWithoutPerson(ArgumentCall call) {
        refused(NONE_SUCH, Worlds::empty, x -> call.on(x, 0));
        refused(NONE_SUCH, Worlds::empty, x -> call.on(x, -1));
        int[] none = {-1, 2, LEAST, MOST};
        for (int each : none) {
            refused(NONE_SUCH, Worlds::twoPeople, x -> call.on(x, each));
        }
        refused(NONE_SUCH, Worlds::full, x -> call.on(x, 10));
    }

    private static void check(boolean holds, String otherwise) {
        checks++;
        if (!holds) {
            fail(otherwise);
        }
    }

    private static void fail(String what) {
        failures++;
        System.out.println("[" + running + "] " + what);
    }

    private static String thrownBy(TaxEqualiser x, Call call) {
        try {
            call.on(x);
            return "";
        } catch (RuntimeException e) {
            StackTraceElement[] trace = e.getStackTrace();
            boolean own = trace.length > 0 && trace[0].getClassName().startsWith("TaxEqualiser");
            return own ? e.getClass().getName() : "the machine's " + e;
        }
    }

    // ---- running them

    /** Runs what has been told; the sections that it is told of are those with the beginning or those without. */
    static void runAll(String beginning, boolean with) {
        compareWithDocument(beginning, with);
        for (Map.Entry<String, Test> each : TESTS.entrySet()) {
            if (each.getValue() != NO_TEST) {
                runOne(each.getKey(), each.getValue());
            }
        }
        System.out.println(TESTS.size() + " sentences, " + checks + " checks, " + failures + " failures");
        if (failures != 0) {
            System.exit(1);
        }
    }

    private static void runOne(String key, Test test) {
        running = key;
        int before = checks;
        try {
            test.run();
        } catch (RuntimeException e) {
            fail("threw " + e);
        }
        if (checks == before) {
            fail("has no check");
        }
        running = "";
    }

    private static void compareWithDocument(String beginning, boolean with) {
        Set<String> written = writtenSentences();
        for (String each : written) {
            if (each.startsWith(beginning) == with && !TESTS.containsKey(each)) {
                fail("no test for: " + each);
            }
        }
        for (String each : TESTS.keySet()) {
            if (!written.contains(each)) {
                fail("the document has no: " + each);
            }
        }
    }

    private static Set<String> writtenSentences() {
        Set<String> written = new LinkedHashSet<>();
        String title = "";
        boolean inCode = false;
        for (String line : documentText().split("\n")) {
            if (line.startsWith("```")) {
                inCode = !inCode;
            } else if (!inCode && line.startsWith("#")) {
                title = line.replaceFirst("^#+ ", "");
            } else if (!inCode && !line.isBlank()) {
                addSentences(written, title, line);
            }
        }
        return written;
    }

    private static void addSentences(Set<String> written, String title, String line) {
        String withoutFace = line.replaceFirst("^`[^`]*\\([^`]*`: ", "");
        String plain = withoutFace.replace("`", "").replaceFirst("^- ", "");
        for (String each : plain.split("(?<=\\.) ")) {
            written.add(title + " | " + each);
        }
    }

    private static String documentText() {
        try {
            return Files.readString(Path.of(System.getProperty("shared"), "DOC.md"));
        } catch (IOException e) {
            fail("the document cannot be read: " + e);
            return "";
        }
    }
}
