import java.io.IOException;
import java.lang.reflect.Constructor;
import java.lang.reflect.Field;
import java.lang.reflect.Method;
import java.lang.reflect.Modifier;
import java.nio.charset.StandardCharsets;
import java.nio.file.Files;
import java.nio.file.Path;
import java.util.ArrayList;
import java.util.List;
import java.util.TreeSet;
import java.util.stream.Stream;

/** The public face as the document has it, and those rules of LANGUAGE.md that can be seen from outside. */
public final class RulesTest {
    private static final String[] FACE = {
        "int household(int, int, int) UnsupportedOperationException",
        "int join(int) UnsupportedOperationException",
        "int leave(int) UnsupportedOperationException",
        "int draw(int) UnsupportedOperationException",
        "int vote() UnsupportedOperationException",
        "int rain(int) UnsupportedOperationException",
        "int night(int) UnsupportedOperationException",
        "int collect(int) UnsupportedOperationException",
        "int leather() UnsupportedOperationException",
        "int householdOf(int, int) IndexOutOfBoundsException IllegalArgumentException",
        "int at(int) IndexOutOfBoundsException",
        "int neighbours(int) IndexOutOfBoundsException",
        "int quarrels(int, int) IndexOutOfBoundsException",
        "int wouldWin(int, int) IndexOutOfBoundsException IllegalArgumentException",
        "int turnsBy(int, int) IndexOutOfBoundsException IllegalArgumentException",
        "int isFor(int) IndexOutOfBoundsException",
        "int membersFor(int) IllegalArgumentException",
        "int turnIn(int) IndexOutOfBoundsException NoSuchElementException",
        "int possible()",
        "int wouldBring(int) IllegalArgumentException",
        "int wellIn(int, int) IllegalArgumentException",
        "int droughtIn(int) IllegalArgumentException NoSuchElementException",
        "int water()",
        "int waterAgain()",
        "int append(char) IllegalStateException",
        "int commands() IllegalArgumentException UnsupportedOperationException",
        "int faultPosition()",
        "int reason(int) IllegalArgumentException NoSuchElementException",
        "int line(int) IndexOutOfBoundsException",
        "char character(int) IndexOutOfBoundsException",
        "float meanTemper() ArithmeticException",
        "double share(int) IndexOutOfBoundsException ArithmeticException",
        "int account(int) IllegalArgumentException",
        "int undo() IllegalStateException",
        "int save()",
        "int restore() IllegalStateException",
    };

    private static final String[] NOT_IN_THE_SOURCE = {"->", "::", " catch", " finally", " synchronized", " assert ",
        "Exact(", " protected ", " record ", " yield ", " var ", "\" +", "+ \"", "\t", ".toString(", "System.out"};

    private static final Checks due = new Checks();

    public static void main(String[] args) throws IOException {
        due.part("the face");
        face();
        due.part("the classes inside");
        classesInside();
        due.part("the source");
        source();
        due.part("the tests");
        tests();
        due.end();
    }

    private static void face() {
        Class<?> main = PumpParliament.class;
        int kind = main.getModifiers();
        due.is("public and final", 1, Modifier.isPublic(kind) && Modifier.isFinal(kind) ? 1 : 0);
        due.is("constructors", 1, main.getDeclaredConstructors().length);
        for (Constructor<?> c : main.getDeclaredConstructors()) {
            due.is("a public constructor", 1, Modifier.isPublic(c.getModifiers()) ? 1 : 0);
            due.is("its parameters", 0, c.getParameterCount());
        }
        TreeSet<String> wanted = new TreeSet<>(List.of(FACE));
        TreeSet<String> got = new TreeSet<>();
        for (Method m : main.getDeclaredMethods()) {
            if (!Modifier.isPrivate(m.getModifiers())) {
                due.is(m + " is public and of an object", 1,
                    Modifier.isPublic(m.getModifiers()) && !Modifier.isStatic(m.getModifiers()) ? 1 : 0);
                got.add(told(m));
            }
        }
        due.isText("the methods", String.join("\n", wanted), String.join("\n", got));
    }

    private static String told(Method m) {
        List<String> types = new ArrayList<>();
        for (Class<?> type : m.getParameterTypes()) {
            types.add(type.getSimpleName());
        }
        StringBuilder text = new StringBuilder();
        text.append(m.getReturnType()).append(' ').append(m.getName());
        text.append('(').append(String.join(", ", types)).append(')');
        for (Class<?> type : m.getExceptionTypes()) {
            text.append(' ').append(type.getSimpleName());
        }
        return text.toString();
    }

    private static void classesInside() {
        TreeSet<String> publicNames = new TreeSet<>();
        for (String method : FACE) {
            publicNames.add(method.substring(method.indexOf(' ') + 1, method.indexOf('(')));
        }
        List<Class<?>> all = new ArrayList<>(List.of(PumpParliament.class.getDeclaredClasses()));
        due.is("at most twelve classes", 1, all.size() < 12 ? 1 : 0);
        for (Class<?> inside : all) {
            due.is(inside + " is static and private", 1,
                Modifier.isStatic(inside.getModifiers()) && Modifier.isPrivate(inside.getModifiers()) ? 1 : 0);
        }
        all.add(PumpParliament.class);
        for (Class<?> each : all) {
            int fields = 0;
            for (Field f : each.getDeclaredFields()) {
                boolean still = Modifier.isStatic(f.getModifiers());
                fields += still ? 0 : 1;
                due.is(f + " is private", 1, Modifier.isPrivate(f.getModifiers()) ? 1 : 0);
                due.is(f + " is final if it is static", 1, !still || Modifier.isFinal(f.getModifiers()) ? 1 : 0);
            }
            due.is(each + " has at most twenty fields", 1, fields <= 20 ? 1 : 0);
            for (Method m : each.getDeclaredMethods()) {
                boolean hidden = Modifier.isPrivate(m.getModifiers());
                due.is(m + " bears a name of its own", 1, hidden && publicNames.contains(m.getName()) ? 0 : 1);
                due.is(m + " has at most seven parameters", 1, m.getParameterCount() <= 7 ? 1 : 0);
            }
        }
    }

    private static void source() throws IOException {
        Path path = Path.of("src", "main", "java", "PumpParliament.java");
        String text = Files.readString(path, StandardCharsets.ISO_8859_1);
        for (int k = 0; k < text.length(); k++) {
            if (text.charAt(k) > 126) {
                due.tell("the sign at " + k + " is not one of 1 to 126");
            }
        }
        for (String word : NOT_IN_THE_SOURCE) {
            due.is("how often it has '" + word + "'", -1, text.indexOf(word));
        }
        String[] lines = text.split("\n");
        int begin = 0;
        for (int k = 0; k < lines.length; k++) {
            if (lines[k].startsWith("import ")) {
                due.isText("an import", "import java.util.NoSuchElementException;", lines[k]);
            }
            if (lines[k].matches(" {4}(p| {4}p)(ublic|rivate) .*\\) .*\\{")) {
                begin = k;
            }
            due.is("line " + (k + 1) + " is of a method of at most sixty lines", 1,
                k - begin <= 60 || !lines[k].startsWith("        ") || begin == 0 ? 1 : 0);
            due.is("line " + (k + 1) + " has at most 120 signs", 1, lines[k].length() <= 120 ? 1 : 0);
        }
    }

    /** Behind its 512th call an object may answer as it likes; these two keep tests from asking it. */
    private static void tests() throws IOException {
        TreeSet<String> makers = new TreeSet<>();
        try (Stream<Path> files = Files.list(Path.of("src", "test", "java"))) {
            for (Path file : files.toList()) {
                if (Files.readString(file, StandardCharsets.UTF_8).contains("new " + "PumpParliament(")) {
                    makers.add(file.getFileName().toString());
                }
            }
        }
        due.isText("those that make pumps", "Pump.java Trial.java", String.join(" ", makers));
    }
}
