import java.nio.file.Files;
import java.nio.file.Path;
import java.util.ArrayList;
import java.util.List;
import java.util.regex.Matcher;
import java.util.regex.Pattern;

/** What can be seen in the source of the rules in LANGUAGE.md; run from the project's root. */
public final class LanguageTest {
    private static final String[] FORBIDDEN = {
        "\\bthrow\\b", "\\bthrows\\b", "\\btry\\b", "\\bcatch\\b", "\\bsynchronized\\b", "\\bassert\\b", "->", "::", "\\bimport\\b",
        "\\bpackage\\b", "\\bprotected\\b", "Exact\\b", "\\bObject\\b", "\\bhashCode\\b", "\\btoString\\b", "String\\s*\\[",
        "\\bvar\\b", "\\bdouble\\b", "\\bfloat\\b", "\\bwhile \\(true\\)", "\\[\\]\\[\\]\\[\\]", "static \\{", "\\bSystem\\.(?!arraycopy)",
        "\"\\s*\\+|\\+\\s*\""};

    private static String withoutComments(String source) {
        return source.replaceAll("(?s)/\\*.*?\\*/", "").replaceAll("//[^\n]*", "");
    }

    /** The lines of each method, told by its head at four or eight blanks. */
    private static void methods(String source) {
        String[] lines = source.split("\n");
        Pattern head = Pattern.compile("^( {4}| {8})(?! )[^=;]*\\(([^)]*)\\) \\{$");
        for (int i = 0; i < lines.length; i++) {
            Matcher m = head.matcher(lines[i]);
            if (!m.find()) continue;
            int end = i;
            while (end < lines.length && !lines[end].equals(m.group(1) + "}")) end++;
            Due.holds("some sixty lines: " + lines[i].trim(), end - i <= 60);
            int parameters = m.group(2).isEmpty() ? 0 : m.group(2).split(",").length;
            Due.holds("seven parameters: " + lines[i].trim(), parameters <= 7);
        }
    }

    /** Rule 9: a loop's own counter stands in its condition, against a bound, and goes on in its own lines. */
    private static void loops(String source) {
        Matcher m = Pattern.compile("\\bfor \\((?:int|long) (\\w+) = [^;]*;([^;]*);([^{]*)\\{").matcher(source);
        int counted = 0;
        for (; m.find(); counted++) {
            String name = m.group(1);
            Due.holds("a counter against a bound: " + m.group(), m.group(2).matches("(?s).*\\b" + name + " (<|<=|>|>=) .*"));
            Due.holds("a counter that goes on: " + m.group(), m.group(3).matches("\\s*" + name + "(\\+\\+|--| [+-]= \\d+)\\)\\s*"));
        }
        m = Pattern.compile("\\bwhile \\((\\w+) < \\w+ && [^{]*\\{([^}]*\\{[^}]*\\})?[^}]*?\\b(\\w+)\\+\\+;\\s*\\}").matcher(source);
        for (; m.find(); counted++) {
            Due.holds("a counter that goes on: " + m.group(), m.group(1).equals(m.group(3)));
        }
        int loops = source.split("\\b(for|while|do) ?[({]", -1).length - 1;
        Due.is("loops whose end can be seen", loops, counted);
    }

    private static void classes(String source) {
        List<String> names = new ArrayList<>();
        Matcher m = Pattern.compile("\\bclass (\\w+)").matcher(source);
        while (m.find()) names.add(m.group(1));
        Due.holds("some twelve classes: " + names, names.size() <= 12);
        int nested = source.split("private static final class ", -1).length - 1;
        Due.is("classes inside are private, static and final", names.size() - 1, nested);
    }

    public static void main(String[] args) throws Exception {
        String source = withoutComments(Files.readString(Path.of("src/main/java/HandFast.java")));
        for (String forbidden : FORBIDDEN) {
            Matcher m = Pattern.compile(forbidden).matcher(source);
            Due.holds("no " + forbidden, !m.find());
        }
        methods(source);
        loops(source);
        classes(source);
        Due.holds("signs 1 to 127 alone", source.chars().allMatch(c -> c > 0 && c < 128));
        Due.finish();
    }
}
