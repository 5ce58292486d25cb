import java.io.ByteArrayOutputStream;
import java.io.PrintStream;
import java.lang.reflect.Method;
import java.lang.reflect.Modifier;
import java.net.URL;
import java.net.URLClassLoader;
import java.nio.charset.StandardCharsets;
import java.nio.file.Files;
import java.nio.file.Path;
import java.util.regex.Matcher;
import java.util.regex.Pattern;
import java.util.stream.Stream;
import javax.tools.ToolProvider;

/** What README.md says of the use of the class holds: its example, and its list of the calls; run from the project's root. */
public final class ReadmeTest {
    private static String block(String readme, String kind) {
        Matcher m = Pattern.compile("(?s)```" + kind + "\n(.*?)```").matcher(readme);
        return m.find() ? m.group(1) : "";
    }

    /** What the example prints; empty if it does not compile. */
    private static String printed(Path folder, String example) throws Exception {
        Path file = folder.resolve("Example.java");
        Files.writeString(file, example);
        int failed = ToolProvider.getSystemJavaCompiler().run(null, null, null, "-d", folder.toString(), "-cp",
            System.getProperty("java.class.path"), file.toString());
        if (failed != 0) return "";
        PrintStream usual = System.out;
        ByteArrayOutputStream bytes = new ByteArrayOutputStream();
        try (URLClassLoader loader = new URLClassLoader(new URL[] {folder.toUri().toURL()});
                PrintStream caught = new PrintStream(bytes, true, StandardCharsets.UTF_8)) {
            System.setOut(caught);
            loader.loadClass("Example").getMethod("main", String[].class).invoke(null, (Object) new String[0]);
        } finally {
            System.setOut(usual);
        }
        return bytes.toString(StandardCharsets.UTF_8).replace("\r", "");
    }

    private static void example(String readme) throws Exception {
        Path folder = Files.createTempDirectory("readme");
        String[] due = block(readme, "text").split("\n");
        String[] got = printed(folder, block(readme, "java")).split("\n");
        Due.is("lines that the example prints", due.length, got.length);
        for (int i = 0; i < Math.min(due.length, got.length); i++) {
            Due.holds("the example prints \"" + got[i] + "\", README.md says \"" + due[i] + "\"", got[i].equals(due[i]));
        }
        try (Stream<Path> files = Files.list(folder)) {
            for (Path file : (Iterable<Path>) files::iterator) Files.delete(file);
        }
        Files.delete(folder);
    }

    /** Each call stands on the page as `name(a, b)`, with as many names as it takes numbers. */
    private static void calls(String readme) {
        for (Method m : HandFast.class.getDeclaredMethods()) {
            if (!Modifier.isPublic(m.getModifiers())) continue;
            Matcher told = Pattern.compile("`" + m.getName() + "\\(([^)`]*)\\)`").matcher(readme);
            boolean found = told.find();
            Due.holds("README.md tells of " + m.getName(), found);
            int names = !found || told.group(1).isEmpty() ? 0 : told.group(1).split(", ").length;
            Due.is("names in " + m.getName(), m.getParameterCount(), names);
        }
    }

    /** The page's list of tests is whole. */
    private static void tests(String readme) throws Exception {
        try (Stream<Path> files = Files.list(Path.of("src/test/java"))) {
            for (Path file : (Iterable<Path>) files::iterator) {
                String name = file.getFileName().toString().replace(".java", "");
                Due.holds("README.md tells of " + name, !name.endsWith("Test") || readme.contains("`" + name + "`"));
            }
        }
    }

    public static void main(String[] args) throws Exception {
        String readme = Files.readString(Path.of("README.md"));
        example(readme);
        calls(readme);
        tests(readme);
        Due.finish();
    }
}
