import java.io.IOException;
import java.nio.file.Files;
import java.nio.file.Path;
import java.util.ArrayList;
import java.util.List;
import java.util.regex.Matcher;
import java.util.regex.Pattern;

/**
 * Ties tests to the document: each test names the sentence that it holds, word for word. At the end
 * every sentence must have been tried, must stand in the document where the test says, and no words
 * of the document that name a boundary may be left without a test.
 */
final class Edges {
    private static final Path DOCUMENT = Path.of("../shared/DOC.md");
    private static final int PROMISES = 27;
    private static final Pattern BOUNDARY = Pattern.compile("NONE|RANGE|FULL|STATE|OUT\\b|\\.\\.|at most|at least|"
            + "more than|fewer|fewest|least|above|below|higher|wider|fourth|21st|likewise|alike|no such|none such|"
            + "another what|others|stays?\\b|empties|alone|cut\\b|rounded up|as many as|too long|two or more|"
            + "at once|twice|TWICE|already|anew|-9|can't|any more|ahead of any");

    private record Quote(String section, String words) { }

    private final Check book;
    private final List<Quote> quotes = new ArrayList<>();
    private Quote now = null;
    private int tried = 0;

    Edges(Check book) {
        this.book = book;
    }

    /** The tests from here on hold this sentence of the document's terms. */
    void terms(String words) {
        turnTo(new Quote("Terms", words));
    }

    /** The tests from here on hold this sentence of a promise. */
    void promise(int number, String words) {
        turnTo(new Quote("Promise " + number, words));
    }

    private void turnTo(Quote next) {
        leave();
        now = next;
        quotes.add(next);
    }

    private void leave() {
        if (now != null) {
            book.dueTrue(now.section + " <" + now.words + "> was tried", tried > 0);
        }
        tried = 0;
    }

    void due(String call, long got, long want) {
        tried++;
        book.due(now.section + " <" + now.words + ">: " + call, got, want);
    }

    void courseFault(String text, int kind, int place) {
        tried++;
        book.courseFault(text, kind, place);
    }

    void lawsFault(String text, int kind, int place) {
        tried++;
        book.lawsFault(text, kind, place);
    }

    void close() throws IOException {
        leave();
        if (!Files.exists(DOCUMENT)) {
            System.out.println("no document at " + DOCUMENT + ": the quotes were not looked up");
            return;
        }
        String document = Files.readString(DOCUMENT);
        covered("Terms", section(document, "## Terms", "The constants:"));
        for (int n = 1; n <= PROMISES; n++) {
            covered("Promise " + n, section(document, "## Promise " + n + ":", "\n## "));
        }
    }

    private static String section(String document, String from, String to) {
        int start = document.indexOf(from);
        int end = start < 0 ? -1 : document.indexOf(to, start + 1);
        return end < 0 ? "" : document.substring(start, end);
    }

    /** That a section has all its quotes, and its quotes all words that name a boundary. */
    private void covered(String name, String text) {
        boolean[] quoted = new boolean[text.length()];
        for (Quote quote : quotes) {
            if (quote.section.equals(name)) {
                int at = text.indexOf(quote.words);
                book.dueTrue(name + " has <" + quote.words + ">", at >= 0);
                for (int i = 0; at >= 0 && i < quote.words.length(); i++) {
                    quoted[at + i] = true;
                }
            }
        }
        Matcher words = BOUNDARY.matcher(text);
        while (words.find()) {
            int from = Math.max(0, words.start() - 30);
            String near = text.substring(from, Math.min(text.length(), words.end() + 30));
            book.dueTrue(name + ": a test for <" + near + ">", quoted[words.start()]);
        }
    }
}
