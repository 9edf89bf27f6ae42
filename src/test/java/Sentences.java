import java.util.Arrays;

/** Tests under the document's own words: each stands under the sentence whose edges it tries. */
final class Sentences {
    private static final int PROMISES = 44;

    private final String document;
    private final Dues dues;
    private final boolean[] isTried = new boolean[PROMISES + 1];

    Sentences(String document, Dues dues) {
        this.document = document;
        this.dues = dues;
    }

    /** Edges of a sentence among the terms. */
    void term(String words, Runnable edges) {
        under(0, section("## Terms", "## Promise 1:"), words, edges);
    }

    /** Edges of a sentence of a promise. */
    void promise(int number, String words, Runnable edges) {
        String end = number < PROMISES ? "## Promise " + (number + 1) + ":" : "## Not promised";
        under(number, section("## Promise " + number + ":", end), words, edges);
    }

    private String section(String from, String to) {
        int start = document.indexOf(from);
        int end = document.indexOf(to, Math.max(0, start));
        return start < 0 || end < 0 ? "" : document.substring(start, end);
    }

    private void under(int promise, String section, String words, Runnable edges) {
        dues.yes("the document says: " + words, section.contains(words));
        int askedBefore = dues.asked();
        int wrongBefore = dues.wrong();
        edges.run();
        dues.yes("something was asked of: " + words, dues.asked() > askedBefore);
        if (dues.wrong() > wrongBefore) {
            System.out.println("  (of: " + words + ")");
        }
        isTried[promise] = true;
    }

    void all() {
        for (int promise = 0; promise <= PROMISES; promise++) {
            dues.yes("promise " + promise + " was tried, of " + Arrays.toString(isTried), isTried[promise]);
        }
    }
}
