import java.io.PrintWriter;
import java.io.StringWriter;
import java.nio.file.Files;
import java.nio.file.Path;
import java.util.ArrayList;
import java.util.HashSet;
import java.util.List;
import java.util.Map;
import java.util.Optional;
import java.util.Set;
import java.util.TreeMap;
import java.util.TreeSet;
import java.util.regex.Matcher;
import java.util.regex.Pattern;
import java.util.spi.ToolProvider;
import java.util.stream.Collectors;
import java.util.stream.Stream;

/** What can be seen of LANGUAGE.md in the compiled class: the library, what throws, what is made, how deep calls go. */
public final class BytecodeTest {
    private static final int DEEPEST = 8;
    private static final int FIELDS_MOST = 20;
    private static final Set<String> LIBRARY = Set.of("java/lang/Object.<init>", "java/lang/String.length", "java/lang/String.charAt",
        "java/lang/Math.min", "java/lang/Math.max", "java/lang/Integer.bitCount", "java/lang/Long.bitCount", "java/lang/System.arraycopy");
    private static final Pattern CLASS = Pattern.compile("^(?:\\w+ )*class (\\S+)");
    private static final Pattern METHOD = Pattern.compile("^  (?=\\S)(?:.* )?([\\w$]+)\\([^)]*\\);$");
    private static final Pattern FIELD = Pattern.compile("^  (?!.*static )\\S[^(]*;$");
    private static final Pattern CALL = Pattern.compile("\\binvoke\\w+\\b.*// (?:Interface)?Method ([^:]+):");
    private static final Pattern REFUSED = Pattern.compile("\\b(athrow|invokedynamic|monitorenter|jsr)\\b|Exception table");
    private static final Pattern MAKES = Pattern.compile("^ +\\d+: (new|newarray|anewarray|multianewarray)\\b");

    private final Map<String, Set<String>> calls = new TreeMap<>();
    private final Map<String, Integer> fields = new TreeMap<>();
    private final Map<String, Integer> depths = new TreeMap<>();

    private static String[] disassembled(ToolProvider javap) throws Exception {
        Path folder = Path.of(HandFast.class.getProtectionDomain().getCodeSource().getLocation().toURI());
        List<String> args = new ArrayList<>(List.of("-p", "-c"));
        try (Stream<Path> files = Files.list(folder)) {
            args.addAll(files.map(Path::toString).filter(f -> f.matches(".*HandFast(\\$\\w+)?\\.class")).sorted()
                .collect(Collectors.toList()));
        }
        StringWriter out = new StringWriter();
        PrintWriter writer = new PrintWriter(out);
        int failed = javap.run(writer, writer, args.toArray(new String[0]));
        Due.is("javap", 0, failed);
        return out.toString().split("\\R");
    }

    private void read(String[] lines) {
        String type = "";
        String method = "";
        for (String line : lines) {
            Matcher m = CLASS.matcher(line);
            if (m.find()) {
                type = m.group(1);
                method = "";
                continue;
            }
            m = METHOD.matcher(line);
            if (m.find()) {
                method = type + "." + (m.group(1).equals(type) ? "<init>" : m.group(1));
                calls.putIfAbsent(method, new TreeSet<>());
            } else if (FIELD.matcher(line).find()) {
                fields.merge(type, 1, Integer::sum);
            }
            Due.holds("in " + method + ": " + line.trim(), !REFUSED.matcher(line).find());
            boolean makes = MAKES.matcher(line).find();
            Due.holds("rows are made by constructors alone, not in " + method, !makes || method.endsWith(".<init>"));
            m = CALL.matcher(line);
            if (m.find() && calls.containsKey(method)) {
                String to = m.group(1).replace("\"", "");
                calls.get(method).add(to.contains(".") ? to : type + "." + to);
            }
        }
    }

    /** All methods that a method calls, and those call, and so on. */
    private Set<String> reached(String from) {
        Set<String> seen = new HashSet<>();
        List<String> open = new ArrayList<>(calls.getOrDefault(from, Set.of()));
        while (!open.isEmpty()) {
            String next = open.remove(open.size() - 1);
            if (seen.add(next)) open.addAll(calls.getOrDefault(next, Set.of()));
        }
        return seen;
    }

    /** How deep calls go from a method on; methods that call one another in a ring are one level. */
    private int depth(String method) {
        if (depths.containsKey(method)) return depths.get(method);
        Set<String> ring = reached(method).stream().filter(m -> reached(m).contains(method)).collect(Collectors.toSet());
        ring.add(method);
        int deepest = 0;
        for (String member : ring) {
            for (String next : calls.getOrDefault(member, Set.of())) {
                if (!ring.contains(next)) deepest = Math.max(deepest, depth(next));
            }
        }
        depths.put(method, deepest + 1);
        return deepest + 1;
    }

    private void check() {
        Due.holds("the class and those inside it were read", fields.size() >= 2 && calls.containsKey("HandFast.boats"));
        fields.forEach((type, count) -> Due.holds(type + " has some twenty fields: " + count, count <= FIELDS_MOST));
        for (String method : calls.keySet()) {
            for (String to : calls.get(method)) {
                Due.holds(method + " calls " + to, calls.containsKey(to) || LIBRARY.contains(to));
            }
            Due.holds("calls go eight deep from " + method + ": " + depth(method), depth(method) <= DEEPEST);
        }
    }

    public static void main(String[] args) throws Exception {
        Optional<ToolProvider> javap = ToolProvider.findFirst("javap");
        if (javap.isEmpty()) {
            System.out.println("this Java has no javap: nothing was looked at");
            return;
        }
        BytecodeTest test = new BytecodeTest();
        test.read(disassembled(javap.get()));
        test.check();
        Due.finish();
    }
}
