import java.io.IOException;

/** Each sentence of the document that names a boundary case: the last cases on either side, and what is refused. */
public final class BoundsTest {
    private static final int LONGEST_SECONDS = 300;

    public static void main(String[] args) throws IOException {
        failIfItTakesLong();
        Checks due = new Checks();
        Sentences sentences = new Sentences(due);
        BoundsOfTerms.ask(sentences);
        BoundsOfWords.ask(sentences);
        BoundsOfActions.ask(sentences);
        BoundsOfQuestions.ask(sentences);
        BoundsOfTexts.ask(sentences);
        sentences.askForAll();
        due.end();
    }

    /** A broken bound may make a call that does not end; that has to fail too. */
    private static void failIfItTakesLong() {
        Thread watch = new Thread(() -> {
            try {
                Thread.sleep(1000L * LONGEST_SECONDS);
            } catch (InterruptedException e) {
                return;
            }
            System.out.println("the test takes more than " + LONGEST_SECONDS + " seconds");
            Runtime.getRuntime().halt(1);
        });
        watch.setDaemon(true);
        watch.start();
    }
}
