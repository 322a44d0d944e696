import java.io.IOException;
import java.nio.file.Files;
import java.nio.file.Path;
import java.util.ArrayList;
import java.util.List;

/** Runs a test for each sentence of the document, and finds the sentences that have none. */
final class Sentences {
    private static final Path DOCUMENT = Path.of("..", "shared", "DOC.md");
    private static final String FIRST_HEADING = "## Terms";
    private static final String BEHIND_LAST = "## Not promised";

    final Checks checks = new Checks();
    private final List<String> quotes = new ArrayList<>();
    private String current = "";

    void test(String quote, Runnable test) {
        quotes.add(quote);
        current = quote;
        int before = checks.made();
        test.run();
        checks.holds("a check was made for: " + quote, checks.made() > before);
    }

    /** The sentence that is being tested. */
    String current() {
        return current;
    }

    /** Each quote stands in the document, and all words of the Terms and the promises stand in a quote. */
    void compareWithDocument() {
        String document = readDocument();
        String promised = promisedPart(document);
        boolean[] quoted = new boolean[promised.length()];
        for (String quote : quotes) {
            checks.holds("the document says: " + quote, plain(document).contains(quote));
            markQuoted(promised, quote, quoted);
        }
        checks.equal("words without a test:" + wordsLeft(promised, quoted), wordsLeft(promised, quoted).length(), 0);
        System.out.println(quotes.size() + " sentences or parts of one have a test of their own");
    }

    private static String readDocument() {
        try {
            return Files.readString(DOCUMENT);
        } catch (IOException unreadable) {
            throw new IllegalStateException("the document can't be read at " + DOCUMENT.toAbsolutePath(), unreadable);
        }
    }

    private static String promisedPart(String document) {
        int from = document.indexOf(FIRST_HEADING);
        int to = document.indexOf(BEHIND_LAST);
        if (from < 0 || to < from) {
            throw new IllegalStateException("the document has no part from " + FIRST_HEADING + " to " + BEHIND_LAST);
        }
        StringBuilder part = new StringBuilder();
        for (String line : document.substring(from, to).split("\n")) {
            if (!line.startsWith("#") && !line.startsWith("```")) {
                part.append(line).append(' ');
            }
        }
        return plain(part.toString());
    }

    /** Without Markdown's code marks, and with one space for any white space. */
    private static String plain(String text) {
        return text.replace("`", "").replaceAll("\\s+", " ");
    }

    private static void markQuoted(String promised, String quote, boolean[] quoted) {
        for (int at = promised.indexOf(quote); at >= 0; at = promised.indexOf(quote, at + 1)) {
            for (int k = 0; k < quote.length(); k++) {
                quoted[at + k] = true;
            }
        }
    }

    private static String wordsLeft(String promised, boolean[] quoted) {
        StringBuilder left = new StringBuilder();
        for (int k = 0; k < quoted.length; k++) {
            if (!quoted[k] && Character.isLetterOrDigit(promised.charAt(k))) {
                boolean goesOn = k > 0 && !quoted[k - 1] && Character.isLetterOrDigit(promised.charAt(k - 1));
                left.append(goesOn ? "" : " ").append(promised.charAt(k));
            }
        }
        return left.toString();
    }
}
