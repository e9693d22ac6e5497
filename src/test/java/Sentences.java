import java.io.IOException;
import java.nio.charset.StandardCharsets;
import java.nio.file.Files;
import java.nio.file.Path;
import java.util.BitSet;
import java.util.LinkedHashMap;
import java.util.Map;
import java.util.regex.Matcher;
import java.util.regex.Pattern;

/**
 * The sentences of the document, each with the runs that it decides. A sentence that a test names must stand in the
 * document under that term or promise, and what names a bound in the document must stand in a sentence with a test.
 */
final class Sentences {
    private static final Path DOCUMENT = Path.of("..", "shared", "DOC.md");

    /** Words by which a sentence names a boundary case. */
    private static final Pattern BOUND = Pattern.compile("\\d+|Throws|\\b(at most|up to|below|less than|or more"
        + "|rounded|spilled|latest|lowest|most|fewer|as many|same distance|first|nearer|too early|empty|none|unchanged"
        + "|kept|keeps|in place of|whatever|without|otherwise|and stay|any more|all|each|whether|end of|end|left"
        + "|successful)\\b");

    private final Checks checks;
    private final Map<String, String> texts = new LinkedHashMap<>();
    private final Map<String, BitSet> named = new LinkedHashMap<>();
    private String section = "";

    Sentences(Checks checks) throws IOException {
        this.checks = checks;
        if (Files.exists(DOCUMENT)) {
            read(Files.readString(DOCUMENT, StandardCharsets.UTF_8));
        } else {
            System.out.println("there is no " + DOCUMENT + ": whether the sentences stand in it is not asked");
        }
    }

    private void read(String document) {
        String heading = "";
        for (String block : document.split("\n\\s*\n")) {
            String text = block.strip().replaceAll("\\s+", " ");
            if (text.startsWith("## ")) {
                heading = text.substring(3).replaceAll(":.*", "");
            } else if (heading.equals("Terms") && text.matches("[A-Z][a-z]+( [a-z]+)?[.:] .*")) {
                add(text.replaceAll("[.:] .*", ""), text);
            } else if (heading.equals("Terms") && !text.startsWith("Divisions")) {
                add("Examples", text);
            } else {
                add(heading, text);
            }
        }
    }

    private void add(String name, String text) {
        texts.merge(name, text, (before, more) -> before + " " + more);
    }

    void of(String name) {
        section = name;
        checks.part(name);
        checks.is("the document has it: 1", 1, texts.isEmpty() || texts.containsKey(name) ? 1 : 0);
    }

    /** Plays the runs, each on a new pump; each of them must answer as the sentence says. */
    void holds(String sentence, String... runs) {
        checks.part(section + ", \"" + sentence + "\"");
        name(sentence);
        checks.is("the sentence has runs: 1", 1, runs.length > 0 ? 1 : 0);
        for (String run : runs) {
            new Run(checks, run).play();
        }
    }

    private void name(String sentence) {
        String text = texts.get(section);
        if (text == null) {
            return;
        }
        checks.is("it stands in the document: 1", 1, text.contains(sentence) ? 1 : 0);
        BitSet signs = named.computeIfAbsent(section, s -> new BitSet());
        for (int at = text.indexOf(sentence); at >= 0; at = text.indexOf(sentence, at + 1)) {
            signs.set(at, at + sentence.length());
        }
    }

    /** Tells each bound of the terms and promises that no sentence with a test has. */
    void askForAll() {
        checks.part("the sentences without a test");
        for (String name : texts.keySet()) {
            if (!name.matches("What it is|The public face|Examples|Not promised|PumpParliament")) {
                askForAll(name, texts.get(name), named.getOrDefault(name, new BitSet()));
            }
        }
    }

    private void askForAll(String name, String text, BitSet signs) {
        Matcher bounds = BOUND.matcher(text);
        while (bounds.find()) {
            String about = text.substring(Math.max(0, bounds.start() - 30), Math.min(text.length(), bounds.end() + 30));
            checks.is(name + ": '" + bounds.group() + "' in '" + about + "' has a test: 1", 1,
                signs.get(bounds.start()) ? 1 : 0);
        }
    }
}
