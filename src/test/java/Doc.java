import java.io.IOException;
import java.nio.file.Files;
import java.nio.file.Path;

/** The document, so that a test can quote the sentence that it is for; run from the project's root. */
final class Doc {
    private static final Path PLACE = Path.of("../shared/DOC.md");
    /** Empty where the document is not at hand: then quotes are held against nothing. */
    static final String TEXT = read();

    private Doc() { }

    private static String read() {
        if (!Files.isReadable(PLACE)) {
            System.out.println("no document at " + PLACE + " to hold quotes against");
            return "";
        }
        try {
            return Files.readString(PLACE);
        } catch (IOException e) {
            throw new IllegalStateException("the document can't be read", e);
        }
    }

    private static boolean has(String quote, String head, String next) {
        int from = TEXT.indexOf(head);
        int to = TEXT.indexOf(next, from + 1);
        return TEXT.isEmpty() || from >= 0 && to >= 0 && TEXT.substring(from, to).contains(quote);
    }

    static boolean hasInTerms(String quote) {
        return has(quote, "## Terms", "## Promise 1:");
    }

    static boolean hasInPromise(int number, String quote) {
        return has(quote, "## Promise " + number + ":", number == 30 ? "## Not promised" : "## Promise " + (number + 1) + ":");
    }
}
