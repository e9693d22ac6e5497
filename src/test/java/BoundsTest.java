import java.io.IOException;

/** Each sentence of the document that names a boundary case: the last cases on either side, and what is refused. */
public final class BoundsTest {
    public static void main(String[] args) throws IOException {
        Checks due = new Checks();
        Sentences sentences = new Sentences(due);
        BoundsOfTerms.ask(sentences);
        BoundsOfWords.ask(sentences);
        BoundsOfActions.ask(sentences);
        BoundsOfQuestions.ask(sentences);
        BoundsOfTexts.ask(sentences);
        sentences.askForAll();
        due.end();
    }
}
