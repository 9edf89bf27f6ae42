import java.util.Arrays;
import java.util.regex.Matcher;
import java.util.regex.Pattern;

/** Tests under the document's own words: each stands under the sentence whose edges it tries. */
final class Sentences {
    private static final int PROMISES = 44;
    /** What stands around the sentences: headings, the heads of calls, the signs of a block, the numbers of the terms. */
    private static final Pattern FRAME = Pattern.compile("(?m)^##.*$|^`[^`]*`: |^```\\w*$|^==== \\d\\.");

    private final String document;
    private final Dues dues;
    private final boolean[] isTried = new boolean[PROMISES + 1];
    private final boolean[] isQuoted;

    Sentences(String document, Dues dues) {
        this.document = document;
        this.dues = dues;
        isQuoted = new boolean[document.length()];
        Matcher frame = FRAME.matcher(document);
        while (frame.find()) {
            Arrays.fill(isQuoted, frame.start(), frame.end(), true);
        }
    }

    /** Edges of a sentence ahead of the public face. */
    void first(String words, Runnable edges) {
        under(0, document.indexOf("## What it is"), document.indexOf("## The public face"), words, edges);
    }

    /** Edges of a sentence among the terms. */
    void term(String words, Runnable edges) {
        under(0, document.indexOf("## Terms"), document.indexOf("## Promise 1:"), words, edges);
    }

    /** Edges of a sentence of a promise. */
    void promise(int number, String words, Runnable edges) {
        String next = number < PROMISES ? "## Promise " + (number + 1) + ":" : "## Not promised";
        under(number, document.indexOf("## Promise " + number + ":"), document.indexOf(next), words, edges);
    }

    private void under(int promise, int from, int to, String words, Runnable edges) {
        dues.yes("the document says: " + words, quote(from, to, words));
        int askedBefore = dues.asked();
        int wrongBefore = dues.wrong();
        edges.run();
        dues.yes("something was asked of: " + words, dues.asked() > askedBefore);
        if (dues.wrong() > wrongBefore) {
            System.out.println("  (of: " + words + ")");
        }
        isTried[promise] = true;
    }

    private boolean quote(int from, int to, String words) {
        int at = document.indexOf(words, Math.max(0, from));
        boolean isSaid = from >= 0 && at >= 0 && at + words.length() <= to;
        for (int start = at; start >= 0 && start + words.length() <= to; start = document.indexOf(words, start + 1)) {
            Arrays.fill(isQuoted, start, start + words.length(), true);
        }
        return isSaid;
    }

    /** No letter or digit between the terms' first and the promises' last may be under no test. */
    private void everyWord() {
        int end = document.indexOf("## Not promised");
        int from = document.indexOf("## Terms");
        dues.yes("the document has terms and promises", from >= 0 && end > from);
        for (int at = from; at >= 0 && at < end; at++) {
            int start = at;
            while (at < end && !isQuoted[at]) {
                at++;
            }
            if (at > start) {
                String bare = document.substring(start, at);
                dues.no("no test is under: " + bare, bare.chars().anyMatch(Character::isLetterOrDigit));
            }
        }
    }

    void all() {
        everyWord();
        for (int promise = 0; promise <= PROMISES; promise++) {
            dues.yes("promise " + promise + " was tried, of " + Arrays.toString(isTried), isTried[promise]);
        }
    }
}
