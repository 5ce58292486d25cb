import java.lang.reflect.Method;
import java.nio.charset.StandardCharsets;
import java.util.Arrays;
import java.util.Comparator;
import java.util.Random;

/** Random runs of calls, whose answers must be those of the model; all seeds are fixed. */
public final class ModelTest {
    private static final int RUNS = Integer.getInteger("runs", 300);
    private static final int CALLS = 250;
    private static Method[] ours;
    private static Method[] theirs;

    private static Method[] face(Class<?> type) {
        return Arrays.stream(type.getDeclaredMethods())
            .filter(m -> java.lang.reflect.Modifier.isPublic(m.getModifiers()))
            .sorted(Comparator.comparing(Method::getName)).toArray(Method[]::new);
    }

    private final Random random;
    private final HandFast hand = new HandFast();
    private final Model model = new Model();
    private final StringBuilder story = new StringBuilder();
    private final int run;

    private ModelTest(int run) {
        this.run = run;
        random = new Random(run * 7919L + 17);
    }

    private int below(int n) {
        return random.nextInt(n);
    }

    private String pick(String... of) {
        return of[below(of.length)];
    }

    private boolean call(String name, int... args) throws Exception {
        for (int i = 0; i < ours.length; i++) {
            if (!ours[i].getName().equals(name)) continue;
            Object[] boxed = Arrays.stream(args).boxed().toArray();
            int got = (Integer) ours[i].invoke(hand, boxed);
            int want = (Integer) theirs[i].invoke(model, boxed);
            story.append(name).append(Arrays.toString(args)).append(" -> ").append(want).append('\n');
            if (got != want) System.out.println("run " + run + " (model)\n" + story);
            Due.is("run " + run + ": " + name + Arrays.toString(args), want, got);
            return got == want;
        }
        throw new IllegalStateException(name);
    }

    private boolean text(String text, String how) throws Exception {
        String cut = text.length() > 400 ? text.substring(0, 400) : text;
        byte[] bytes = cut.getBytes(StandardCharsets.ISO_8859_1);
        story.append(how).append(": ").append(cut).append('\n');
        boolean good = call("end", 0);
        for (int at = 0; at < bytes.length; at += 20) {
            good &= call("feed", Due.word(bytes, at), Due.word(bytes, at + 4), Due.word(bytes, at + 8),
                Due.word(bytes, at + 12), Due.word(bytes, at + 16));
        }
        return good && call("end", bytes.length) && call(how);
    }

    private String isleText() {
        int likeMost = below(3) == 0 ? 21 : 3 + below(7);
        StringBuilder s = new StringBuilder("isle " + below(100) + " " + below(likeMost));
        int easts = below(8) == 0 ? below(5) : 2 + below(3);
        int wests = below(8) == 0 ? below(5) : 2 + below(3);
        int purse = random.nextBoolean() ? 60 : 1000;
        for (int i = 0; i < easts; i++) s.append(";east ").append(below(purse));
        for (int i = 0; i < wests; i++) s.append(";west ").append(below(purse));
        if (easts > 0 && wests > 0) {
            int pairs = 4 + below(20);
            for (int i = 0; i < pairs; i++) {
                s.append(pick(";seems ", ";seems ", ";truly ")).append(below(easts)).append(' ').append(below(wests))
                    .append(' ').append(below(likeMost)).append(' ').append(below(likeMost));
            }
        }
        int late = below(4);
        for (int i = 0; i < late; i++) s.append(";late ").append(below(below(2) == 0 ? 9 : 61));
        return s.toString();
    }

    private String value() {
        return below(3) == 0 ? "" + below(pick("a", "b").equals("a") ? 10 : 100000)
            : pick("side", "person", "other", "likes", "liked", "years", "purse", "gift", "best", "year", "hands");
    }

    private String sum() {
        StringBuilder s = new StringBuilder(value());
        for (int i = below(3); i > 0; i--) s.append(pick("+", "-", "-", "*", "/", "%", " - ")).append(value());
        return s.toString();
    }

    private String test(int depth) {
        if (depth > 0 && below(4) == 0) return "[" + test(depth - 1) + "]";
        if (depth > 0 && below(4) == 0) return "not " + test(depth - 1);
        if (depth > 0 && below(3) == 0) return test(depth - 1) + pick(" or ", " and ") + test(depth - 1);
        return sum() + pick("<", "<=", "=", ">=", ">") + sum();
    }

    private String ruleText() {
        StringBuilder s = new StringBuilder();
        int clauses = 1 + below(below(20) == 0 ? 14 : 4);
        for (int i = 0; i < clauses; i++) {
            s.append(i == 0 ? "" : ";").append("stay ").append(sum());
            if (below(4) != 0) s.append(" if ").append(test(below(20) == 0 ? 12 : 3));
        }
        return s.toString();
    }

    private String spoiled(String text) {
        if (text.isEmpty()) return text;
        StringBuilder s = new StringBuilder(text);
        for (int i = 1 + below(2); i > 0; i--) {
            int at = below(s.length() + 1);
            switch (below(6)) {
                case 0: if (at < s.length()) s.deleteCharAt(at); break;
                case 1: s.insert(at, pick(" ", ";", "[", "]", "<", "=", "x", "9", "123456", "not ", "\t", "(", "\u00ff")); break;
                case 2: s.setLength(at); break;
                case 3: s.append(pick(";east 5", ";late 3", ";isle 0 0", ";stay 1", " if 1=1", ";", " ", "+1+1")); break;
                case 4: for (int k = below(45); k > 0; k--) s.append(pick(";late 3", ";west 2", "+1", "*likes", " ", ";stay 1"));
                    break;
                default: if (at < s.length()) s.setCharAt(at, (char) below(256)); break;
            }
        }
        return s.toString();
    }

    private int odd(int usual) {
        return below(25) == 0 ? new int[] {-2, -1, 4, 5, 6, 31, 61, 101, Integer.MAX_VALUE, Integer.MIN_VALUE}[below(10)] : usual;
    }

    private int west() {
        return odd(below(5) - 1);
    }

    private boolean anyCall() throws Exception {
        int fairs = 1 + below(below(3) == 0 ? 30 : 8);
        switch (below(40)) {
            case 0: return text(below(3) == 0 ? spoiled(isleText()) : isleText(), "isle");
            case 1: return text(below(3) == 0 ? spoiled(ruleText()) : ruleText(), "rule");
            case 2: return call("force", odd(below(7) - 1));
            case 3: return call("east", odd(below(4)), odd(below(4)));
            case 4: return call("west", odd(below(4)), odd(below(4)));
            case 5: return call("likes", odd(below(4)), odd(below(4)), odd(below(4)));
            case 6: case 7: case 8: case 9: return call("fair");
            case 10: case 11: case 12: return call("join", odd(below(4)), odd(below(4)));
            case 13: return call("part", odd(below(4)));
            case 14: return call("hold");
            case 15: return call("undo");
            case 16: case 17: return call("ahead", odd(below(4)), odd(below(3) == 0 ? below(61) : below(9)), odd(below(4)));
            case 18: case 19: return call("lasts", odd(below(4)));
            case 20: return call("settled", odd(below(6)));
            case 21: case 22: return call("tries", odd(below(4)), odd(fairs), odd(below(2)));
            case 23: return call("liked", odd(below(2)));
            case 24: case 25: return call("doors", odd(below(4)), odd(below(2)));
            case 26: case 27: return call("keep", odd(below(4)), odd(fairs));
            case 28: case 29: return noteSomething();
            case 30: return call("ruled", odd(below(2)));
            case 31: return call("boats", odd(below(3) - 1), odd(below(3)));
            case 32: return call("look", odd(below(4) == 0 ? 30 - below(4) : below(8)), odd(below(2)));
            case 33: return call("seed", odd(random.nextInt() & Integer.MAX_VALUE));
            case 34: return call("isles", odd(1 + below(10)), odd(fairs), odd(below(101)), odd(below(2)));
            case 35: return call("count", odd(below(15)));
            case 36: return call("image", odd(below(4)));
            case 37: return below(3) != 0 || call("back", odd(below(4)));
            default: return call("count", 7 + below(6));
        }
    }

    /** Most notes are so by some rule, that there be something to find. */
    private boolean noteSomething() throws Exception {
        if (below(9) == 0) return call("note", -1, 0, 0);
        int n = odd(below(3) == 0 ? below(31) : below(8));
        int e = odd(below(4));
        if (below(6) == 0) return call("note", n, e, west());
        int west = model.wasJoined(below(model.count(4) + 1) - 1, n, e);
        return call("note", n, e, west);
    }

    private boolean everything() throws Exception {
        boolean good = true;
        for (int what = 0; what < 15; what++) good &= call("count", what);
        for (int i = 0; i < 4; i++) {
            for (int what = 0; what < 4; what++) {
                good &= call("east", i, what) & call("west", i, what);
                for (int j = 0; j < 4; j++) good &= call("likes", i, j, what);
            }
            good &= call("lasts", i) & call("keep", i, 5) & call("tries", i, 4, 0) & call("tries", i, 4, 1);
            good &= call("doors", i, 0) & call("doors", i, 1) & call("ahead", i, 3, 0) & call("ahead", i, 3, 1);
        }
        for (int what = 0; what < 6; what++) good &= call("settled", what);
        for (int what = 0; what < 2; what++) good &= call("ruled", what) & call("look", 0, what) & call("look", 4, what) & call("liked", what);
        for (int what = 0; what < 3; what++) good &= call("boats", -1, what);
        return good;
    }

    private boolean goes() throws Exception {
        boolean good = below(20) == 0 || text(isleText(), "isle");
        for (int i = below(4); i > 0 && good; i--) good = text(ruleText(), "rule");
        for (int i = 0; i < CALLS && good; i++) good = anyCall();
        return good && everything();
    }

    public static void main(String[] args) throws Exception {
        ours = face(HandFast.class);
        theirs = face(Model.class);
        boolean good = true;
        for (int run = 0; run < RUNS && good; run++) good = new ModelTest(run).goes();
        Due.finish();
    }
}
