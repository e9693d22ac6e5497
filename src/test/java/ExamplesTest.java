import java.io.IOException;
import java.nio.charset.StandardCharsets;
import java.nio.file.Files;
import java.nio.file.Path;

/** The five examples of the document, row by row, as they stand there. */
public final class ExamplesTest {
    private static final Path DOCUMENT = Path.of("..", "shared", "DOC.md");

    private static final String[] EXAMPLES = {
        """
        1. A quarrel: household(4, 3, 6) = 0; household(2, 4, 5) = 1; join(0) = 0; join(1) = -1; quarrels(0, 1) = 1;

        ```text
          householdOf(1, 2) = 6; householdOf(1, 4) = 0.
        ```
        """, """
        2. Turns of a day: household(5, 0, 0) = 0; join(0) = 0; draw(3) = 30; householdOf(0, 4) = 0; account(3) = 470;

        ```text
          join(0) = throws UnsupportedOperationException; reason(0) = 6; reason(1) = 3.
        ```
        """, """
        3. A vote: household(6, 0, 0) = 0; household(1, 9, 9) = 1; vote() = 2; isFor(1) = 1; turnsBy(0, 2) = 4;

        ```text
          householdOf(0, 3) = 4.
        ```
        """, """
        4. A drought: rain(0) = 2; wellIn(4, 110) = 60; droughtIn(110) = 4; night(1) = 500; account(12) = 0.
        """, """
        5. Commands: household(3, 0, 0) = 0; append('j') = 1; append('0') = 2; append(';') = 3; append('d') = 4;

        ```text
          append('1') = 5; commands() = 2; line(0) = 8; character(3) = h.
        ```
        """
    };

    private static final int[] ROWS = {7, 8, 6, 5, 9};

    private static final Checks due = new Checks();

    public static void main(String[] args) throws IOException {
        standInTheDocument();
        for (int k = 0; k < EXAMPLES.length; k++) {
            due.part("example " + (k + 1));
            Run run = new Run(due, rows(EXAMPLES[k]));
            due.is("its rows", ROWS[k], run.size());
            run.play();
        }
        due.end();
    }

    /** All of the document between "Examples" and the first promise: another example there would need a test, too. */
    private static void standInTheDocument() throws IOException {
        due.part("the examples");
        if (Files.exists(DOCUMENT)) {
            String document = Files.readString(DOCUMENT, StandardCharsets.UTF_8);
            String told = "Examples: Each of them begins with a new object; the results are given behind the calls.";
            int begin = document.indexOf(told);
            int end = document.indexOf("## Promise 1:");
            due.is("the document has them: 1", 1, begin >= 0 && begin < end ? 1 : 0);
            if (begin >= 0 && begin < end) {
                due.isText("in the document", plain(String.join(" ", EXAMPLES)),
                    plain(document.substring(begin + told.length(), end)));
            }
        } else {
            System.out.println("there is no " + DOCUMENT + ": whether the examples stand in it is not asked");
        }
    }

    private static String plain(String text) {
        return text.strip().replaceAll("\\s+", " ");
    }

    /** Without its title, the marks of a block and the full stop. */
    private static String rows(String example) {
        String text = plain(example.replace("```text", "").replace("```", "")).replaceAll("^\\d\\. [^:]*:", "");
        return text.substring(0, text.length() - 1);
    }
}
