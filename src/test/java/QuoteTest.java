import java.io.IOException;
import java.nio.file.Files;
import java.nio.file.Path;
import java.util.List;
import java.util.regex.Matcher;
import java.util.regex.Pattern;
import java.util.stream.Collectors;
import java.util.stream.Stream;

/** Every sentence of the document's Terms and promises is quoted by a test; run from the project's root. */
public final class QuoteTest {
    private static final Pattern QUOTE = Pattern.compile("Due\\.(?:terms|promise)\\((?:(\\d+),)?\\s*((?:\"(?:[^\"\\\\]|\\\\.)*\"\\s*\\+?\\s*)+)\\)");
    private static final Pattern PIECE = Pattern.compile("\"((?:[^\"\\\\]|\\\\.)*)\"");

    private static String quoteOf(String pieces) {
        Matcher m = PIECE.matcher(pieces);
        StringBuilder s = new StringBuilder();
        while (m.find()) s.append(m.group(1));
        return s.toString();
    }

    /** Marks what a test's source quotes in the document. */
    private static void mark(String source, String doc, boolean[] quoted) {
        Matcher m = QUOTE.matcher(source);
        while (m.find()) {
            String quote = quoteOf(m.group(2));
            int at = doc.indexOf(quote, doc.indexOf(m.group(1) == null ? "## Terms" : "## Promise " + m.group(1) + ":"));
            for (int i = 0; at >= 0 && i < quote.length(); i++) quoted[at + i] = true;
        }
    }

    /** What is left of the document without what is quoted, headings, heads of methods and the signs between. */
    private static String left(String doc, boolean[] quoted) {
        StringBuilder s = new StringBuilder();
        for (int i = Math.max(0, doc.indexOf("## Terms")); i < doc.indexOf("## Not promised"); i++) s.append(quoted[i] ? '\1' : doc.charAt(i));
        return s.toString().replaceAll("(?m)^## .*$", "").replaceAll("`{3}(text)?", "").replaceAll("(?m)^`[^`]*\\)`:", "").replaceAll("==== II\\.", "")
            .replaceAll("[^a-zA-Z0-9\1 ]", "").replaceAll("\1+", "|").replaceAll(" *\\| *", "|").replaceAll("\\|+", "|");
    }

    public static void main(String[] args) throws IOException {
        String doc = Doc.TEXT;
        boolean[] quoted = new boolean[doc.length()];
        List<Path> sources;
        try (Stream<Path> files = Files.list(Path.of("src/test/java"))) {
            sources = files.filter(f -> f.toString().endsWith(".java")).collect(Collectors.toList());
        }
        for (Path source : sources) mark(Files.readString(source), doc, quoted);
        String left = left(doc, quoted);
        Due.holds("tests quote the document", doc.isEmpty() || left.contains("|"));
        // a word that joins two sentences is none
        for (String words : left.split("\\|")) Due.holds("no test quotes: " + words.trim(), words.trim().length() <= 3);
        Due.finish();
    }
}
