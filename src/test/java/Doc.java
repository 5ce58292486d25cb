import java.io.IOException;
import java.nio.file.Files;
import java.nio.file.Path;

/** The document, so that a test can quote the sentence that it is for; run from the project's root. */
final class Doc {
    private static final String TEXT = read();

    private Doc() { }

    private static String read() {
        try {
            return Files.readString(Path.of("../shared/DOC.md"));
        } catch (IOException e) {
            throw new IllegalStateException("no document at ../shared/DOC.md", e);
        }
    }

    private static String between(String head, String next) {
        int from = TEXT.indexOf(head);
        int to = TEXT.indexOf(next, from + 1);
        return from < 0 || to < 0 ? "" : TEXT.substring(from, to);
    }

    static boolean hasInTerms(String quote) {
        return between("## Terms", "## Promise 1:").contains(quote);
    }

    static boolean hasInPromise(int number, String quote) {
        String next = number == 30 ? "## Not promised" : "## Promise " + (number + 1) + ":";
        return between("## Promise " + number + ":", next).contains(quote);
    }
}
