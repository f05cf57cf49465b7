import java.io.IOException;
import java.lang.reflect.Constructor;
import java.lang.reflect.Field;
import java.lang.reflect.Method;
import java.lang.reflect.Modifier;
import java.nio.file.Files;
import java.nio.file.Path;
import java.util.Set;
import java.util.TreeSet;

/** The class's face is the document's, and its text keeps to the rules of LANGUAGE.md a scan can see. */
public final class FaceTests {
    private static final String[] FACE = {
        "void setLimits(int,int,int) IllegalArgumentException",
        "void setRates(int,int,int,int) IllegalArgumentException",
        "int tax(int,int) IllegalArgumentException",
        "int grossTax(int,int) IllegalArgumentException",
        "int grossTaxByTrying(int,int) IllegalArgumentException",
        "int add(int,int,int) IllegalArgumentException IllegalStateException",
        "int setAbroad(int,int,int) IndexOutOfBoundsException IllegalArgumentException",
        "int setPay(int,int) IndexOutOfBoundsException IllegalArgumentException",
        "int setHousing(int,int,int) IndexOutOfBoundsException IllegalArgumentException",
        "int addBonus(int,int,int,int) IndexOutOfBoundsException IllegalArgumentException IllegalStateException",
        "int people()",
        "int abroadPart(int,int) IndexOutOfBoundsException",
        "int held(int,int) IndexOutOfBoundsException IllegalArgumentException",
        "int supposedTax(int) IndexOutOfBoundsException",
        "int homeIncome(int) IndexOutOfBoundsException",
        "int homeTax(int) IndexOutOfBoundsException",
        "int hostIncome(int) IndexOutOfBoundsException",
        "int hostTax(int) IndexOutOfBoundsException",
        "int borne(int) IndexOutOfBoundsException",
        "int settlement(int) IndexOutOfBoundsException",
        "int cost(int) IndexOutOfBoundsException",
        "int dearest()",
    };

    // Rules 2, 6, 10 and 13: no lambda, no method reference, no catch of anything, no library beyond lists.
    private static final String[] NOT_IN_THE_TEXT = {
        "package ", "->", "::", "catch", "finally", "synchronized", "assert", "Exact(", "System.",
        "Random", "Thread", "hashCode", "toString", "instanceof", "protected ",
    };

    private static int passed = 0;
    private static int failed = 0;

    private static void holds(String what, boolean ok) {
        if (ok) {
            passed++;
        } else {
            failed++;
            System.out.println("does not hold: " + what);
        }
    }

    public static void main(String[] args) throws IOException {
        publicMethods();
        otherMembers();
        classesInside();
        text();
        headings();
        System.out.println(passed + " passed, " + failed + " failed");
        if (failed != 0) {
            System.exit(1);
        }
    }

    private static void publicMethods() {
        Set<String> due = new TreeSet<>(Set.of(FACE));
        Set<String> got = new TreeSet<>();
        for (Method each : TaxEqualiser.class.getDeclaredMethods()) {
            if (Modifier.isPublic(each.getModifiers())) {
                got.add(signature(each));
            }
        }
        for (String each : due) {
            holds("has " + each, got.contains(each));
        }
        for (String each : got) {
            holds("nothing more than the face: " + each, due.contains(each));
        }
    }

    private static String signature(Method method) {
        StringBuilder text = new StringBuilder();
        text.append(method.getReturnType().getSimpleName()).append(' ').append(method.getName()).append('(');
        String comma = "";
        for (Class<?> each : method.getParameterTypes()) {
            text.append(comma).append(each.getSimpleName());
            comma = ",";
        }
        text.append(')');
        for (Class<?> each : method.getExceptionTypes()) {
            text.append(' ').append(each.getSimpleName());
        }
        return text.toString();
    }

    private static void otherMembers() {
        Set<String> publicNames = new TreeSet<>();
        for (Method each : TaxEqualiser.class.getMethods()) {
            publicNames.add(each.getName());
        }
        for (Method each : TaxEqualiser.class.getDeclaredMethods()) {
            boolean isPublic = Modifier.isPublic(each.getModifiers());
            holds("public or private: " + each, isPublic || Modifier.isPrivate(each.getModifiers()));
            holds("a name of its own: " + each, isPublic || !publicNames.contains(each.getName()));
        }
        for (Field each : TaxEqualiser.class.getDeclaredFields()) {
            holds("private: " + each, Modifier.isPrivate(each.getModifiers()));
        }
        holds("public", Modifier.isPublic(TaxEqualiser.class.getModifiers()));
        holds("final", Modifier.isFinal(TaxEqualiser.class.getModifiers()));
        Constructor<?>[] constructors = TaxEqualiser.class.getDeclaredConstructors();
        holds("one constructor", constructors.length == 1 && constructors[0].getParameterCount() == 0);
    }

    private static void classesInside() {
        noStaticState(TaxEqualiser.class);
        for (Class<?> inside : TaxEqualiser.class.getDeclaredClasses()) {
            noStaticState(inside);
            holds("static: " + inside, Modifier.isStatic(inside.getModifiers()));
            holds("not public: " + inside, !Modifier.isPublic(inside.getModifiers()));
            for (Method each : inside.getDeclaredMethods()) {
                for (String line : FACE) {
                    holds("no name of the face: " + each, !line.contains(" " + each.getName() + "("));
                }
            }
        }
    }

    private static void noStaticState(Class<?> type) {
        for (Field each : type.getDeclaredFields()) {
            int modifiers = each.getModifiers();
            holds("no static state: " + each, !Modifier.isStatic(modifiers) || Modifier.isFinal(modifiers));
        }
    }

    private static void text() throws IOException {
        String source = sourceText();
        for (String each : NOT_IN_THE_TEXT) {
            holds("the text has no " + each, !source.contains(each));
        }
        for (String line : source.split("\n")) {
            if (line.startsWith("import ")) {
                holds(line, line.equals("import java.util.ArrayList;") || line.equals("import java.util.List;"));
            }
        }
    }

    // The face is told in the order of the document, each part under the heading that the document names.
    private static void headings() throws IOException {
        String source = sourceText();
        int at = 0;
        for (int i = 0; i < FACE.length; i++) {
            if (i == 0) {
                at = behind(source, "// ---- lands\n", at);
            } else if (i == 5) {
                at = behind(source, "// ---- people\n", at);
            } else if (i == 12) {
                at = behind(source, "// ---- taxes and settlements\n", at);
            }
            at = behind(source, "public " + FACE[i].substring(0, FACE[i].indexOf('(') + 1), at);
        }
    }

    private static int behind(String source, String part, int from) {
        int found = source.indexOf(part, from);
        holds("stands where the document has it: " + part, found >= 0);
        return found < 0 ? from : found + part.length();
    }

    private static String sourceText() throws IOException {
        return Files.readString(Path.of(System.getProperty("source")));
    }
}
