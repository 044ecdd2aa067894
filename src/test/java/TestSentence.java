import java.io.IOException;
import java.nio.file.Files;
import java.nio.file.Path;
import java.util.TreeSet;

/** The sentence of the document that the checks now running test, under the number of its promise. */
final class TestSentence {
    private static final Path DOCUMENT = Path.of("../shared/DOC.md");
    private static final int LAST_PROMISE = 41;

    private static final TreeSet<Integer> PROMISES = new TreeSet<>();
    private static String document = "";
    private static String title = "";
    private static int sentences = 0;
    private static int checksAhead = 0;

    private TestSentence() {
    }

    static String title() {
        return title;
    }

    /** The checks from here on test this sentence, which stands under the promise, in the terms or ahead of them. */
    static void sentence(int promise, String quote) {
        sentence(promise, promise, quote);
    }

    /** The same of a promise that the sentence of another one tells more of. */
    static void sentence(int promise, int under, String quote) {
        endSentence();
        title = "promise " + promise + ", \"" + quote + "\"";
        sentences++;
        PROMISES.add(promise);
        TestKit.due(title + ": is in the document", isTold(under, quote), true);
        checksAhead = TestKit.checks();
    }

    private static void endSentence() {
        if (sentences > 0) {
            TestKit.due(title + ": has checks", TestKit.checks() > checksAhead, true);
        }
    }

    /** Ends the tests; each of the promises has to have a sentence. */
    static void finish(int first, int last) {
        endSentence();
        for (int promise = first; promise <= last; promise++) {
            TestKit.due("promise " + promise + " has sentences", PROMISES.contains(promise), true);
        }
        System.out.println(sentences + " sentences");
        TestKit.finish();
    }

    private static boolean isTold(int promise, String quote) {
        String terms = between("## What it is", "## The public face") + between("## Terms", "## Promise 1:");
        String section = between("## Promise " + promise + ":",
                promise == LAST_PROMISE ? "## Not promised" : "## Promise " + (promise + 1) + ":");
        return terms.contains(quote) || section.contains(quote);
    }

    private static String between(String begin, String end) {
        int from = text().indexOf(begin);
        int to = text().indexOf(end);
        return from < 0 || to < from ? "" : text().substring(from, to);
    }

    private static String text() {
        if (document.isEmpty()) {
            try {
                document = Files.readString(DOCUMENT).replaceAll("\\s+", " ");
            } catch (IOException e) {
                throw new IllegalStateException("the document can't be read", e);
            }
        }
        return document;
    }
}
