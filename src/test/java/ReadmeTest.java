import java.io.IOException;
import java.lang.reflect.Method;
import java.lang.reflect.Modifier;
import java.nio.charset.StandardCharsets;
import java.nio.file.Files;
import java.nio.file.Path;
import java.util.ArrayList;
import java.util.List;
import java.util.TreeSet;
import java.util.concurrent.TimeUnit;
import java.util.regex.Matcher;
import java.util.regex.Pattern;
import java.util.stream.Stream;

/** Tries what README.md says: its example with what that prints, its commands, and the names that it names. */
public final class ReadmeTest {
    private static final String ALL_TESTS = ".ci/run";
    private static final Path EXAMPLE = Path.of("src", "example", "java", "Village.java");
    private static final Path TESTS = Path.of("src", "test", "java");
    private static final Pattern BLOCK = Pattern.compile("```([a-z]+)\n(.*?)\n```", Pattern.DOTALL);
    private static final Pattern NAME = Pattern.compile("`([^`\n]+)`");
    private static final List<String> PROGRAMS = List.of("javac", "java");
    private static final int LONGEST_SECONDS = 300;

    private static final Checks due = new Checks();

    public static void main(String[] args) throws IOException, InterruptedException {
        String text = read(Path.of("README.md"));
        due.part("the example");
        due.isText("it is " + EXAMPLE, read(EXAMPLE).strip(), only(blocks(text, "java")));
        commands(blocks(text, "sh"), only(blocks(text, "text")));
        due.part("the tests that it names");
        tests(text);
        due.part("the names that it names");
        names(BLOCK.matcher(text).replaceAll(""));
        due.end();
    }

    private static String read(Path path) throws IOException {
        return Files.readString(path, StandardCharsets.UTF_8);
    }

    private static List<String> blocks(String text, String kind) {
        List<String> blocks = new ArrayList<>();
        Matcher all = BLOCK.matcher(text);
        while (all.find()) {
            if (all.group(1).equals(kind)) {
                blocks.add(all.group(2));
            }
        }
        return blocks;
    }

    private static String only(List<String> blocks) {
        due.is("blocks of this kind", 1, blocks.size());
        return blocks.isEmpty() ? "" : blocks.get(0);
    }

    /** All tests are not run from here, since this one is among them. */
    private static void commands(List<String> blocks, String printed) throws IOException, InterruptedException {
        due.part("the commands");
        due.is("how many blocks: the example, all tests, one of the project, one of the shared", 4, blocks.size());
        for (int k = 0; k < blocks.size(); k++) {
            String block = blocks.get(k);
            if (block.equals(ALL_TESTS)) {
                due.is(ALL_TESTS + " can be executed: 1", 1, Files.isExecutable(Path.of(ALL_TESTS)) ? 1 : 0);
            } else {
                String got = output(block);
                due.isText("what it prints", k == 0 ? printed : got, got);
                due.is("it prints something: 1", 1, got.isBlank() ? 0 : 1);
            }
        }
        due.is("one block runs all tests: 1", 1, blocks.contains(ALL_TESTS) ? 1 : 0);
    }

    private static String output(String block) throws IOException, InterruptedException {
        Path room = Files.createTempDirectory("readme");
        Path printed = room.resolve("printed");
        ProcessBuilder shell = new ProcessBuilder("sh", "-e", "-c", block);
        shell.environment().put("TMPDIR", room.toString());
        shell.redirectOutput(printed.toFile());
        shell.redirectError(ProcessBuilder.Redirect.INHERIT);
        Process process = shell.start();
        boolean ended = process.waitFor(LONGEST_SECONDS, TimeUnit.SECONDS);
        if (!ended) {
            process.destroyForcibly().waitFor();
        }
        due.is("the exit code of " + block, 0, ended ? process.exitValue() : -1);
        String text = read(printed).strip();
        remove(room);
        return text;
    }

    private static void remove(Path room) throws IOException {
        List<Path> paths;
        try (Stream<Path> all = Files.walk(room)) {
            paths = new ArrayList<>(all.toList());
        }
        for (int k = paths.size() - 1; k >= 0; k--) {
            Files.delete(paths.get(k));
        }
    }

    private static void tests(String text) throws IOException {
        TreeSet<String> there = new TreeSet<>();
        try (Stream<Path> files = Files.list(TESTS)) {
            files.map(file -> file.getFileName().toString()).filter(name -> name.endsWith("Test.java"))
                .forEach(name -> there.add(name.substring(0, name.length() - 5)));
        }
        TreeSet<String> named = new TreeSet<>();
        Matcher rows = Pattern.compile("(?m)^- `([A-Z][A-Za-z]*Test)`:").matcher(text);
        while (rows.find()) {
            named.add(rows.group(1));
        }
        due.isText("these are there", String.join(" ", there), String.join(" ", named));
    }

    /** A name with a slash must be there as a file, and a small one without it must be a method of the class. */
    private static void names(String prose) {
        TreeSet<String> methods = new TreeSet<>(PROGRAMS);
        for (Method m : PumpParliament.class.getDeclaredMethods()) {
            if (Modifier.isPublic(m.getModifiers())) {
                methods.add(m.getName());
            }
        }
        Matcher names = NAME.matcher(prose);
        while (names.find()) {
            String name = names.group(1);
            if (name.contains("/")) {
                due.is(name + " is there: 1", 1, Files.exists(Path.of(name)) ? 1 : 0);
            } else if (name.matches("[a-z][A-Za-z]*(\\(.*\\))?")) {
                due.is(name + " is a method: 1", 1, methods.contains(name.replaceAll("\\(.*", "")) ? 1 : 0);
            }
        }
    }
}
