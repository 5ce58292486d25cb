import java.util.ArrayList;
import java.util.HashMap;
import java.util.List;
import java.util.Map;
import java.util.TreeMap;
import java.util.TreeSet;
import java.util.function.ToLongFunction;

/** A second, plain reading of the document, for ModelTest to compare with; it cares for no limit of the language. */
public final class Model {
    static final class Fault extends Exception {
        private static final long serialVersionUID = 1L;
        final int number;

        Fault(int place, int kind) {
            super("fault");
            number = 1 + 8 * place + kind;
        }
    }

    static final class Token {
        final String text;
        final int place;

        Token(String text, int place) {
            this.text = text;
            this.place = place;
        }

        boolean isNumber() {
            return !text.isEmpty() && Character.isDigit(text.charAt(0)) && text.charAt(0) < 128;
        }
    }

    static List<Token> tokens(String text) {
        List<Token> list = new ArrayList<>();
        int i = 0;
        while (i < text.length()) {
            char c = text.charAt(i);
            int j = i + 1;
            if (c == ' ') {
                i++;
                continue;
            }
            if (c >= 'a' && c <= 'z') {
                while (j < text.length() && text.charAt(j) >= 'a' && text.charAt(j) <= 'z') j++;
            } else if (c >= '0' && c <= '9') {
                while (j < text.length() && text.charAt(j) >= '0' && text.charAt(j) <= '9') j++;
            } else if ((c == '<' || c == '>') && j < text.length() && text.charAt(j) == '=') {
                j++;
            }
            list.add(new Token(text.substring(i, j), i));
            i = j;
        }
        list.add(new Token("", text.length()));
        return list;
    }

    static class Parser {
        final List<Token> list;
        int at = 0;

        Parser(String text) {
            list = tokens(text);
        }

        Token peek() {
            return list.get(at);
        }

        boolean accept(String text) {
            if (!text.isEmpty() && peek().text.equals(text)) {
                at++;
                return true;
            }
            return false;
        }

        int number(int most) throws Fault {
            Token t = peek();
            if (!t.isNumber()) throw new Fault(t.place, 0);
            if (t.text.length() > 5 || Integer.parseInt(t.text) > most) throw new Fault(t.place, 1);
            at++;
            return Integer.parseInt(t.text);
        }

        void atEnd() throws Fault {
            if (!peek().text.isEmpty()) throw new Fault(peek().place, 0);
        }
    }

    /** An isle: people as rows of maps, by a key of side and number. */
    static final class Isle {
        boolean there;
        int gift;
        int stay;
        int year;
        TreeSet<Integer> late = new TreeSet<>();
        List<Integer> eastPurse = new ArrayList<>();
        List<Integer> westPurse = new ArrayList<>();
        List<Integer> eastHands = new ArrayList<>();
        List<Integer> westHands = new ArrayList<>();
        Map<Integer, Integer> joined = new TreeMap<>();
        Map<Integer, Integer> since = new HashMap<>();
        int[][] eastLikes = new int[4][4];
        int[][] westLikes = new int[4][4];
        int[][] eastTruly = new int[4][4];
        int[][] westTruly = new int[4][4];

        static int[][] copy(int[][] m) {
            int[][] c = new int[4][];
            for (int i = 0; i < 4; i++) c[i] = m[i].clone();
            return c;
        }

        Isle copy() {
            Isle c = new Isle();
            c.there = there;
            c.gift = gift;
            c.stay = stay;
            c.year = year;
            c.late = new TreeSet<>(late);
            c.eastPurse = new ArrayList<>(eastPurse);
            c.westPurse = new ArrayList<>(westPurse);
            c.eastHands = new ArrayList<>(eastHands);
            c.westHands = new ArrayList<>(westHands);
            c.joined = new TreeMap<>(joined);
            c.since = new HashMap<>(since);
            c.eastLikes = copy(eastLikes);
            c.westLikes = copy(westLikes);
            c.eastTruly = copy(eastTruly);
            c.westTruly = copy(westTruly);
            return c;
        }

        boolean isEast(int e) {
            return e >= 0 && e < eastPurse.size();
        }

        boolean isWest(int w) {
            return w >= 0 && w < westPurse.size();
        }

        int whom(int e) {
            return joined.getOrDefault(e, -1);
        }

        int whose(int w) {
            for (Map.Entry<Integer, Integer> pair : joined.entrySet()) {
                if (pair.getValue() == w) return pair.getKey();
            }
            return -1;
        }

        int years(int e) {
            return joined.containsKey(e) ? year - since.get(e) : 0;
        }

        boolean mutual(int e, int w) {
            return eastLikes[e][w] > 0 && westLikes[e][w] > 0;
        }

        int joinUp(int e, int w) {
            int given = Math.min(gift, eastPurse.get(e));
            eastPurse.set(e, eastPurse.get(e) - given);
            westPurse.set(w, Math.min(9999, westPurse.get(w) + given));
            eastHands.set(e, eastHands.get(e) + 1);
            westHands.set(w, westHands.get(w) + 1);
            joined.put(e, w);
            since.put(e, year);
            return given;
        }

        int partFrom(int e) {
            int w = joined.remove(e);
            int back = Math.min(gift / 2, westPurse.get(w));
            westPurse.set(w, westPurse.get(w) - back);
            eastPurse.set(e, Math.min(9999, eastPurse.get(e) + back));
            return back;
        }

        int fairBy(List<Clause> rule, boolean drawnLate) {
            int count = 0;
            if (!late.contains(year) && !drawnLate) {
                Map<Integer, Integer> before = new HashMap<>(joined);
                for (int e = 0; e < eastPurse.size(); e++) {
                    if (!joined.containsKey(e)) continue;
                    boolean east = stays(rule, 0, e, joined.get(e));
                    boolean west = stays(rule, 1, e, joined.get(e));
                    if (!(east && west)) partFrom(e);
                }
                count = match(before);
            }
            for (Map.Entry<Integer, Integer> pair : joined.entrySet()) {
                int e = pair.getKey();
                int w = pair.getValue();
                eastLikes[e][w] += Integer.signum(eastTruly[e][w] - eastLikes[e][w]);
                westLikes[e][w] += Integer.signum(westTruly[e][w] - westLikes[e][w]);
            }
            year++;
            return count;
        }

        private int match(Map<Integer, Integer> before) {
            TreeSet<Integer> freeEasts = new TreeSet<>();
            TreeSet<Integer> freeWests = new TreeSet<>();
            for (int e = 0; e < eastPurse.size(); e++) if (!joined.containsKey(e)) freeEasts.add(e);
            for (int w = 0; w < westPurse.size(); w++) if (whose(w) < 0) freeWests.add(w);
            Map<Integer, List<Integer>> lists = new HashMap<>();
            for (int e : freeEasts) {
                List<Integer> list = new ArrayList<>();
                for (int w : freeWests) {
                    if (eastLikes[e][w] > 0 && before.getOrDefault(e, -1) != w) list.add(w);
                }
                final int who = e;
                list.sort((a, b) -> eastLikes[who][b] - eastLikes[who][a]);
                lists.put(e, list);
            }
            Map<Integer, Integer> hand = new TreeMap<>();
            while (true) {
                int asker = -1;
                for (int e : freeEasts) {
                    if (!lists.get(e).isEmpty()) {
                        asker = e;
                        break;
                    }
                }
                if (asker < 0) break;
                int w = lists.get(asker).remove(0);
                if (westLikes[asker][w] <= 0) continue;
                if (!hand.containsKey(w)) {
                    hand.put(w, asker);
                    freeEasts.remove(asker);
                } else if (westLikes[asker][w] > westLikes[hand.get(w)][w]) {
                    freeEasts.add(hand.put(w, asker));
                    freeEasts.remove(asker);
                }
            }
            for (Map.Entry<Integer, Integer> pair : hand.entrySet()) joinUp(pair.getValue(), pair.getKey());
            return hand.size();
        }

        boolean stays(List<Clause> rule, int side, int e, int w) {
            if (rule == null) return (side == 0 ? eastLikes[e][w] : westLikes[e][w]) >= stay;
            Map<String, Long> words = new HashMap<>();
            words.put("side", (long) side);
            words.put("person", (long) (side == 0 ? e : w));
            words.put("other", (long) (side == 0 ? w : e));
            words.put("likes", (long) (side == 0 ? eastLikes[e][w] : westLikes[e][w]));
            words.put("liked", (long) (side == 0 ? westLikes[e][w] : eastLikes[e][w]));
            words.put("years", (long) years(e));
            words.put("purse", (long) (side == 0 ? eastPurse.get(e) : westPurse.get(w)));
            words.put("gift", (long) gift);
            long best = 0;
            if (side == 0) {
                for (int o = 0; o < westPurse.size(); o++) if (whose(o) < 0) best = Math.max(best, eastLikes[e][o]);
            } else {
                for (int o = 0; o < eastPurse.size(); o++) if (whom(o) < 0) best = Math.max(best, westLikes[o][w]);
            }
            words.put("best", best);
            words.put("year", (long) year);
            words.put("hands", (long) (side == 0 ? eastHands.get(e) : westHands.get(w)));
            for (Clause clause : rule) {
                if (clause.test == null || clause.test.applyAsLong(words) != 0) {
                    return clause.sum.applyAsLong(words) > 0;
                }
            }
            return false;
        }
    }

    static final class Clause {
        ToLongFunction<Map<String, Long>> sum;
        ToLongFunction<Map<String, Long>> test;
    }

    static Isle parseIsle(String text) throws Fault {
        Parser p = new Parser(text);
        Isle isle = new Isle();
        isle.there = true;
        boolean[][] told = new boolean[4][4];
        int clauses = 0;
        do {
            Token t = p.peek();
            if (!List.of("isle", "east", "west", "seems", "truly", "late").contains(t.text)) throw new Fault(t.place, 0);
            boolean first = clauses == 0;
            if (clauses == 40 || first != t.text.equals("isle")) throw new Fault(t.place, 4);
            if (t.text.equals("east") && isle.eastPurse.size() == 4) throw new Fault(t.place, 4);
            if (t.text.equals("west") && isle.westPurse.size() == 4) throw new Fault(t.place, 4);
            clauses++;
            p.at++;
            if (t.text.equals("isle")) {
                isle.gift = p.number(99);
                isle.stay = p.number(20);
            } else if (t.text.equals("east")) {
                isle.eastPurse.add(p.number(999));
                isle.eastHands.add(0);
            } else if (t.text.equals("west")) {
                isle.westPurse.add(p.number(999));
                isle.westHands.add(0);
            } else if (t.text.equals("late")) {
                isle.late.add(p.number(60));
            } else {
                int e = p.number(isle.eastPurse.size() - 1);
                int w = p.number(isle.westPurse.size() - 1);
                int a = p.number(20);
                int b = p.number(20);
                if (t.text.equals("seems")) {
                    isle.eastLikes[e][w] = a;
                    isle.westLikes[e][w] = b;
                } else {
                    isle.eastTruly[e][w] = a;
                    isle.westTruly[e][w] = b;
                    told[e][w] = true;
                }
            }
        } while (p.accept(";"));
        p.atEnd();
        for (int e = 0; e < 4; e++) {
            for (int w = 0; w < 4; w++) {
                if (!told[e][w]) {
                    isle.eastTruly[e][w] = isle.eastLikes[e][w];
                    isle.westTruly[e][w] = isle.westLikes[e][w];
                }
            }
        }
        return isle;
    }

    static final class RuleParser extends Parser {
        int room = 60;

        RuleParser(String text) {
            super(text);
        }

        List<Clause> rule() throws Fault {
            List<Clause> clauses = new ArrayList<>();
            do {
                int place = peek().place;
                if (!accept("stay")) throw new Fault(place, 0);
                if (clauses.size() == 12) throw new Fault(place, 4);
                Clause clause = new Clause();
                clause.sum = sum();
                if (accept("if")) clause.test = test(10);
                clauses.add(clause);
            } while (accept(";"));
            atEnd();
            return clauses;
        }

        void use(int place) throws Fault {
            if (room == 0) throw new Fault(place, 3);
            room--;
        }

        ToLongFunction<Map<String, Long>> test(int depth) throws Fault {
            ToLongFunction<Map<String, Long>> left = part(depth);
            while (accept("or")) {
                ToLongFunction<Map<String, Long>> a = left;
                ToLongFunction<Map<String, Long>> b = part(depth);
                left = m -> a.applyAsLong(m) != 0 || b.applyAsLong(m) != 0 ? 1 : 0;
            }
            return left;
        }

        ToLongFunction<Map<String, Long>> part(int depth) throws Fault {
            ToLongFunction<Map<String, Long>> left = fact(depth);
            while (accept("and")) {
                ToLongFunction<Map<String, Long>> a = left;
                ToLongFunction<Map<String, Long>> b = fact(depth);
                left = m -> a.applyAsLong(m) != 0 && b.applyAsLong(m) != 0 ? 1 : 0;
            }
            return left;
        }

        ToLongFunction<Map<String, Long>> fact(int depth) throws Fault {
            Token t = peek();
            if (t.text.equals("[") || t.text.equals("not")) {
                if (depth == 0) throw new Fault(t.place, 2);
                at++;
                if (t.text.equals("not")) {
                    ToLongFunction<Map<String, Long>> inner = fact(depth - 1);
                    return m -> inner.applyAsLong(m) == 0 ? 1 : 0;
                }
                ToLongFunction<Map<String, Long>> inner = test(depth - 1);
                if (!accept("]")) throw new Fault(peek().place, 0);
                return inner;
            }
            ToLongFunction<Map<String, Long>> a = sum();
            Token sign = peek();
            if (!List.of("<", "<=", "=", ">=", ">").contains(sign.text)) throw new Fault(sign.place, 0);
            use(sign.place);
            at++;
            ToLongFunction<Map<String, Long>> b = sum();
            return m -> {
                int order = Long.compare(a.applyAsLong(m), b.applyAsLong(m));
                boolean holds = sign.text.contains("=") && order == 0
                    || sign.text.startsWith("<") && order < 0 || sign.text.startsWith(">") && order > 0;
                return holds ? 1 : 0;
            };
        }

        ToLongFunction<Map<String, Long>> sum() throws Fault {
            ToLongFunction<Map<String, Long>> left = term();
            while (true) {
                ToLongFunction<Map<String, Long>> a = left;
                if (accept("+")) {
                    ToLongFunction<Map<String, Long>> b = term();
                    left = m -> a.applyAsLong(m) + b.applyAsLong(m);
                } else if (accept("-")) {
                    ToLongFunction<Map<String, Long>> b = term();
                    left = m -> a.applyAsLong(m) - b.applyAsLong(m);
                } else {
                    return left;
                }
            }
        }

        ToLongFunction<Map<String, Long>> term() throws Fault {
            ToLongFunction<Map<String, Long>> left = value();
            while (true) {
                ToLongFunction<Map<String, Long>> a = left;
                if (accept("*")) {
                    ToLongFunction<Map<String, Long>> b = value();
                    left = m -> a.applyAsLong(m) * b.applyAsLong(m);
                } else if (accept("/")) {
                    ToLongFunction<Map<String, Long>> b = value();
                    left = m -> b.applyAsLong(m) == 0 ? 0 : a.applyAsLong(m) / b.applyAsLong(m);
                } else if (accept("%")) {
                    ToLongFunction<Map<String, Long>> b = value();
                    left = m -> b.applyAsLong(m) == 0 ? 0 : a.applyAsLong(m) % b.applyAsLong(m);
                } else {
                    return left;
                }
            }
        }

        ToLongFunction<Map<String, Long>> value() throws Fault {
            Token t = peek();
            if (t.isNumber()) {
                long n = number(99999);
                use(t.place);
                return m -> n;
            }
            if (!List.of("side", "person", "other", "likes", "liked", "years", "purse", "gift", "best", "year", "hands")
                    .contains(t.text)) {
                throw new Fault(t.place, 0);
            }
            use(t.place);
            at++;
            return m -> m.get(t.text);
        }
    }

    static final class Image {
        Isle begin;
        Isle now;
        List<int[]> notes;
        int force;
        int x;
    }

    private String tape = "";
    private Isle begin = new Isle();
    private Isle now = new Isle();
    private final List<List<Clause>> rules = new ArrayList<>();
    private int force = -1;
    private int x = 0;
    private List<int[]> notes = new ArrayList<>();
    private List<Isle> past = new ArrayList<>();
    private final Image[] images = new Image[4];

    private List<Clause> ruleOf(int rule) {
        return rule < 0 ? null : rules.get(rule);
    }

    private void act() {
        past.add(now.copy());
        if (past.size() > 20) past.remove(0);
    }

    public int feed(int a, int b, int c, int d, int e) {
        if (tape.length() > 380) return -1;
        StringBuilder more = new StringBuilder(tape);
        for (int word : new int[] {a, b, c, d, e}) {
            for (int i = 3; i >= 0; i--) more.append((char) (word >>> 8 * i & 255));
        }
        tape = more.toString();
        return tape.length();
    }

    public int end(int n) {
        if (n < 0 || n > tape.length()) return -1;
        tape = tape.substring(0, n);
        return n;
    }

    public int isle() {
        String text = tape;
        tape = "";
        try {
            begin = parseIsle(text);
        } catch (Fault f) {
            return -2 - f.number;
        }
        now = begin.copy();
        notes = new ArrayList<>();
        past = new ArrayList<>();
        return now.eastPurse.size();
    }

    public int rule() {
        if (rules.size() == 6) return -1;
        String text = tape;
        tape = "";
        try {
            rules.add(new RuleParser(text).rule());
        } catch (Fault f) {
            return -2 - f.number;
        }
        return rules.size() - 1;
    }

    public int force(int rule) {
        if (rule < -1 || rule >= rules.size()) return -2;
        int was = force;
        force = rule;
        return was;
    }

    public int east(int e, int what) {
        if (!now.isEast(e)) return -2;
        return what == 0 ? now.eastPurse.get(e) : what == 1 ? now.whom(e) : what == 2 ? now.years(e)
            : what == 3 ? now.eastHands.get(e) : -2;
    }

    public int west(int w, int what) {
        if (!now.isWest(w)) return -2;
        return what == 0 ? now.westPurse.get(w) : what == 1 ? now.whose(w) : what == 2 ? now.years(now.whose(w))
            : what == 3 ? now.westHands.get(w) : -2;
    }

    public int likes(int e, int w, int what) {
        if (!now.isEast(e) || !now.isWest(w)) return -1;
        return what == 0 ? now.eastLikes[e][w] : what == 1 ? now.westLikes[e][w] : what == 2 ? now.eastTruly[e][w]
            : what == 3 ? now.westTruly[e][w] : -1;
    }

    public int fair() {
        if (!now.there || now.year == 999) return -1;
        act();
        return now.fairBy(ruleOf(force), false);
    }

    private boolean canJoin(int e, int w) {
        return now.isEast(e) && now.isWest(w) && now.whom(e) < 0 && now.whose(w) < 0 && now.mutual(e, w);
    }

    public int join(int e, int w) {
        if (!canJoin(e, w)) return -1;
        act();
        return now.joinUp(e, w);
    }

    public int part(int e) {
        if (!now.isEast(e) || now.whom(e) < 0) return -1;
        act();
        return now.partFrom(e);
    }

    public int hold() {
        if (!now.there || now.year > 60 || now.late.contains(now.year)) return -1;
        act();
        now.late.add(now.year);
        return now.late.size();
    }

    public int undo() {
        if (past.isEmpty()) return -1;
        now = past.remove(past.size() - 1);
        return past.size();
    }

    public int ahead(int number, int n, int what) {
        if (n < 0 || n > 60 || what < 0 || what > 3) return -2;
        if (what < 3 && !now.isEast(number) || what == 3 && !now.isWest(number)) return -2;
        Isle then = now.copy();
        for (int i = 0; i < n; i++) then.fairBy(ruleOf(force), false);
        int w = what < 3 ? then.whom(number) : -1;
        return what == 0 ? w : what == 1 ? (w < 0 ? 0 : then.eastLikes[number][w])
            : what == 2 ? then.eastPurse.get(number) : then.westPurse.get(number);
    }

    public int lasts(int e) {
        if (!now.isEast(e) || now.whom(e) < 0) return -1;
        Isle then = now.copy();
        for (int i = 0; i < 60; i++) {
            int year = then.year;
            int since = then.since.get(e);
            int whom = then.whom(e);
            then.fairBy(ruleOf(force), false);
            if (then.whom(e) != whom || then.since.get(e) != since) return year;
        }
        return -2;
    }

    public int settled(int what) {
        if (!now.there || what < 0 || what > 5) return -3;
        int easts = now.eastPurse.size();
        int wests = now.westPurse.size();
        if (what >= 1 && what <= 4 && (what > easts || now.whom(what - 1) >= 0)) return -2;
        int count = 0;
        int best = -1;
        int[] first = null;
        for (int code = 0; code < 625; code++) {
            int[] row = {code / 125 - 1, code / 25 % 5 - 1, code / 5 % 5 - 1, code % 5 - 1};
            boolean good = true;
            int sum = 0;
            for (int e = 0; e < 4 && good; e++) {
                if (row[e] < 0) continue;
                good = e < easts && row[e] < wests && now.whom(e) < 0 && now.whose(row[e]) < 0 && now.mutual(e, row[e]);
                for (int o = 0; o < e && good; o++) good = row[o] != row[e];
                if (good) sum += now.eastLikes[e][row[e]] + now.westLikes[e][row[e]];
            }
            for (int e = 0; e < easts && good; e++) {
                for (int w = 0; w < wests && good; w++) {
                    if (!canJoin(e, w)) continue;
                    int holder = -1;
                    for (int o = 0; o < 4; o++) if (row[o] == w) holder = o;
                    boolean eastWould = row[e] < 0 || now.eastLikes[e][w] > now.eastLikes[e][row[e]];
                    boolean westWould = holder < 0 || now.westLikes[e][w] > now.westLikes[holder][w];
                    good = !(eastWould && westWould);
                }
            }
            if (!good) continue;
            if (count++ == 0) first = row;
            best = Math.max(best, sum);
        }
        return what == 0 ? count : what == 5 ? best : first[what - 1];
    }

    public int tries(int e, int n, int what) {
        if (!now.isEast(e) || now.whom(e) >= 0 || n < 1 || n > 30 || what < 0 || what > 1) return -2;
        int best = -1;
        int most = -1;
        for (int w = -1; w < 4; w++) {
            if (w >= 0 && !canJoin(e, w)) continue;
            Isle then = now.copy();
            if (w >= 0) then.joinUp(e, w);
            int sum = 0;
            for (int i = 0; i < n; i++) {
                then.fairBy(ruleOf(force), false);
                if (then.whom(e) >= 0) sum += then.eastLikes[e][then.whom(e)];
            }
            if (sum > most) {
                most = sum;
                best = w;
            }
        }
        return what == 0 ? best : most;
    }

    public int liked(int what) {
        if (!now.there || what < 0 || what > 1) return -1;
        int best = -2;
        int most = -2;
        for (int e = now.eastPurse.size() - 1; e >= 0; e--) {
            int sum = 0;
            for (int w = 0; w < now.westPurse.size(); w++) sum += now.westTruly[e][w];
            if (sum >= most) {
                most = sum;
                best = e;
            }
        }
        return what == 0 ? best : most;
    }

    public int doors(int e, int what) {
        if (!now.isEast(e) || now.whom(e) < 0 || what < 0 || what > 1) return -1;
        int w = now.whom(e);
        int half = now.gift / 2 - 10;
        // [own door][other's door]
        int[][] east = {{now.eastLikes[e][w] - now.years(e), half}, {now.stay, now.stay / 2}};
        int[][] west = {{now.westLikes[e][w] - now.years(e), half}, {now.stay, now.stay / 2}};
        int count = 0;
        int first = -2;
        for (int a = 0; a < 2; a++) {
            for (int b = 0; b < 2; b++) {
                if (east[a][b] >= east[1 - a][b] && west[b][a] >= west[1 - b][a]) {
                    if (count++ == 0) first = 2 * a + b;
                }
            }
        }
        return what == 0 ? count : first;
    }

    public int keep(int e, int n) {
        if (!now.isEast(e) || now.whom(e) < 0 || n < 1 || n > 30) return -1;
        for (int gift = 0; gift < 100; gift++) {
            Isle then = now.copy();
            then.gift = gift;
            boolean kept = true;
            for (int i = 0; i < n; i++) {
                then.fairBy(ruleOf(force), false);
                kept &= then.whom(e) == now.whom(e) && then.since.get(e).equals(now.since.get(e));
            }
            if (kept) return gift;
        }
        return -2;
    }

    public int note(int n, int e, int w) {
        if (n == -1) {
            notes = new ArrayList<>();
            return 0;
        }
        if (n < 0 || n > 30 || !now.isEast(e) || w != -1 && !now.isWest(w) || notes.size() == 10) return -2;
        notes.add(new int[] {n, e, w});
        return notes.size();
    }

    /** Whom the easts have behind each of the fairs 0 to 30. */
    private List<Map<Integer, Integer>> story(int rule, TreeSet<Integer> late) {
        Isle then = begin.copy();
        then.late = late;
        List<Map<Integer, Integer>> rows = new ArrayList<>();
        for (int i = 0; i <= 30; i++) {
            then.fairBy(ruleOf(rule), false);
            rows.add(new TreeMap<>(then.joined));
        }
        return rows;
    }

    private boolean fits(List<Map<Integer, Integer>> story) {
        for (int[] note : notes) {
            if (story.get(note[0]).getOrDefault(note[1], -1) != note[2]) return false;
        }
        return true;
    }

    /** Whom an east had behind fair n by a rule, for notes that are so. */
    int wasJoined(int rule, int n, int e) {
        return n < 0 || n > 30 ? -1 : story(rule, begin.late).get(n).getOrDefault(e, -1);
    }

    public int ruled(int what) {
        if (!now.there || what < 0 || what > 1) return -3;
        List<Integer> fitting = new ArrayList<>();
        for (int r = -1; r < rules.size(); r++) if (fits(story(r, begin.late))) fitting.add(r);
        return what == 0 ? fitting.size() : fitting.isEmpty() ? -2 : fitting.get(0);
    }

    public int boats(int rule, int what) {
        if (!now.there || rule < -1 || rule >= rules.size() || what < 0 || what > 2) return -3;
        int count = 0;
        int least = -2;
        int all = -1;
        for (int set = 0; set < 256; set++) {
            TreeSet<Integer> late = new TreeSet<>(begin.late.tailSet(8));
            for (int y = 0; y < 8; y++) if ((set >> y & 1) == 1) late.add(y);
            if (!fits(story(rule, late))) continue;
            if (count++ == 0) least = set;
            all &= set;
        }
        return what == 0 ? count : what == 1 ? least : count == 0 ? 0 : all;
    }

    public int look(int n, int what) {
        if (!now.there || n < 0 || n > 30 || what < 0 || what > 1) return -1;
        int best = -2;
        int fewest = -2;
        for (int e = now.eastPurse.size() - 1; e >= 0; e--) {
            Map<Integer, Integer> groups = new HashMap<>();
            for (int r = -1; r < rules.size(); r++) {
                List<Map<Integer, Integer>> story = story(r, begin.late);
                if (fits(story)) groups.merge(story.get(n).getOrDefault(e, -1), 1, Integer::sum);
            }
            int most = groups.values().stream().mapToInt(i -> i).max().orElse(-2);
            if (most > 0 && (best < 0 || most <= fewest)) {
                best = e;
                fewest = most;
            }
        }
        return what == 0 ? best : fewest;
    }

    public int seed(int value) {
        if (value < 0) return -1;
        int was = x;
        x = value;
        return was;
    }

    public int isles(int m, int n, int p, int what) {
        if (!now.there || m < 1 || m > 10 || n < 1 || n > 30 || p < 0 || p > 100 || what < 0 || what > 1) return -1;
        long y = x;
        int joined = 0;
        int often = 0;
        for (int i = 0; i < m; i++) {
            Isle then = now.copy();
            for (int j = 0; j < n; j++) {
                y = (y * 1103515245L + 12345L) % 2147483648L;
                often += then.fairBy(ruleOf(force), y / 65536 % 100 < p);
            }
            joined += then.joined.size();
        }
        return what == 0 ? joined : often;
    }

    public int count(int what) {
        int eastBits = 0;
        int westBits = 0;
        for (Map.Entry<Integer, Integer> pair : now.joined.entrySet()) {
            eastBits |= 1 << pair.getKey();
            westBits |= 1 << pair.getValue();
        }
        int[] all = {now.gift, now.stay, now.eastPurse.size(), now.westPurse.size(), rules.size(), force, now.year,
            eastBits, westBits, now.late.contains(now.year) ? 1 : 0, now.late.size(), notes.size(), past.size(), x,
            tape.length()};
        return what < 0 || what >= all.length ? -1 : all[what];
    }

    public int image(int k) {
        if (k < 0 || k > 3) return -1;
        Image image = new Image();
        image.begin = begin.copy();
        image.now = now.copy();
        image.notes = new ArrayList<>(notes);
        image.force = force;
        image.x = x;
        images[k] = image;
        return now.year;
    }

    public int back(int k) {
        if (k < 0 || k > 3 || images[k] == null) return -1;
        Image image = images[k];
        begin = image.begin.copy();
        now = image.now.copy();
        notes = new ArrayList<>(image.notes);
        force = image.force;
        x = image.x;
        past = new ArrayList<>();
        return now.year;
    }
}
