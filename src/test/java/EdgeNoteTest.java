/** NOTES, DRAWS and IMAGES: a test for each sentence of the document's part III that names a boundary. */
public final class EdgeNoteTest {
    private static final String PAIR = "isle 0 0;east 0;west 0;seems 0 0 5 5";

    private static HandFast with(String isle, String... rules) {
        HandFast h = Due.of(isle);
        for (String rule : rules) Due.rule(h, rule);
        return h;
    }

    private static void ruled(String when, HandFast h, int many, int first) {
        Due.is("ruled(0), " + when, many, h.ruled(0));
        Due.is("ruled(1), " + when, first, h.ruled(1));
    }

    private static void boats(String when, HandFast h, int rule, int many, int least, int inAll) {
        Due.is("boats(" + rule + ", 0), " + when, many, h.boats(rule, 0));
        Due.is("boats(" + rule + ", 1), " + when, least, h.boats(rule, 1));
        Due.is("boats(" + rule + ", 2), " + when, inAll, h.boats(rule, 2));
    }

    private static void look(String when, HandFast h, int n, int east, int alike) {
        Due.is("look(" + n + ", 0), " + when, east, h.look(n, 0));
        Due.is("look(" + n + ", 1), " + when, alike, h.look(n, 1));
    }

    private static void drawn(String when, HandFast h, int m, int n, int p, int joined, int often) {
        String call = "isles(" + m + ", " + n + ", " + p + ", ";
        Due.is(call + "0), " + when, joined, h.isles(m, n, p, 0));
        Due.is(call + "1), " + when, often, h.isles(m, n, p, 1));
    }

    /** A pair who are joined at FAIR 0 and part at FAIR 1, 29, 30 or 31 by a RULE, to be joined again at the next. */
    private static void notes() {
        Due.terms("NOTES 0 to 9, told: behind the n-th FAIR of all (0 to 30) an EAST was JOINED to a WEST, or to nobody (NONE).");
        HandFast h = with(PAIR, "stay 1 if not year=1", "stay 1 if not year=29", "stay 1 if not year=30", "stay 1 if not year=31");
        int[][] rows = {{0, -1, 0, -2}, {0, 0, 5, -1}, {1, -1, 1, 0}, {1, 0, 4, -1}, {29, -1, 1, 1}, {29, 0, 4, -1}, {30, -1, 1, 2}, {30, 0, 4, -1}};
        for (int[] row : rows) {
            h.note(-1, 0, 0);
            Due.is("a NOTE", 1, h.note(row[0], 0, row[1]));
            ruled("behind FAIR " + row[0] + ": " + row[1], h, row[2], row[3]);
        }
        h.note(-1, 0, 0);
        for (int i = 0; i < 9; i++) Due.is("NOTE " + i, i + 1, h.note(0, 0, 0));
        ruled("nine", h, 5, -1);
        Due.is("NOTE 9", 10, h.note(30, 0, -1));
        ruled("the tenth is told", h, 1, 2);
        Due.is("an eleventh is not", -2, h.note(1, 0, -1));
        ruled("ten", h, 1, 2);
        HandFast four = with("isle 0 0;east 0;east 0;east 0;east 0;west 0;west 0;west 0;west 0;seems 3 3 1 1;seems 0 3 1 0");
        four.note(0, 3, 3);
        ruled("the last ones", four, 1, -1);
        four.note(0, 3, 2);
        ruled("not this one", four, 0, -2);
        HandFast crossed = with("isle 0 0;east 0;east 0;west 0;west 0;west 0;seems 0 2 1 1;seems 1 0 1 1");
        crossed.note(0, 0, 2);
        crossed.note(0, 1, 0);
        ruled("crossed pairs", crossed, 1, -1);
        crossed.note(0, 0, 1);
        ruled("EAST 0 has not WEST 1", crossed, 0, -2);
    }

    private static void ruledBy() {
        Due.terms("RULED: which of the RULES, and of none, so that from the begin on, all as the text told it, all NOTES are so: how many; "
            + "the first (none ahead of 0, told as NONE).");
        ruled("without RULES and NOTES", Due.of(PAIR), 1, -1);
        ruled("without anybody", Due.of("isle 0 0"), 1, -1);
        HandFast h = with(PAIR, "stay 1", "stay 1", "stay 1", "stay 1", "stay 1", "stay 0");
        ruled("six RULES", h, 7, -1);
        h.note(1, 0, -1);
        ruled("the last RULE alone", h, 1, 5);
        h.note(-1, 0, 0);
        h.note(1, 0, 0);
        ruled("all but the last", h, 6, -1);
        h.note(0, 0, -1);
        ruled("none at all", h, 0, -2);
        HandFast stay = with("isle 0 20;east 0;west 0;seems 0 0 5 5", "stay 1");
        stay.note(1, 0, 0);
        ruled("RULE 0 alone", stay, 1, 0);
        HandFast begin = with("isle 9 0;east 9;west 0;seems 0 0 5 5;late 0", "stay 0");
        begin.hold();
        begin.join(0, 0);
        for (int i = 0; i < 3; i++) begin.fair();
        begin.force(0);
        begin.hold();
        begin.note(0, 0, -1);
        ruled("YEAR 0 is late by the text, nobody is joined by hand", begin, 2, -1);
        begin.note(1, 0, 0);
        begin.note(2, 0, 0);
        begin.note(3, 0, 0);
        ruled("YEAR 3 is late by hand alone", begin, 1, -1);
    }

    private static void boatsOf() {
        Due.terms("BOATS by a RULE (or NONE): of all sets of YEARS 0 to 7 in which boats were late, in place of those that are told of these, by which all "
            + "NOTES are so: how many; the least as bits; YEARS that are in all of them, as bits (0 without such).");
        HandFast h = with(PAIR + ";late 0;late 7;late 8;late 10", "stay 0");
        boats("no NOTES", h, -1, 256, 0, 0);
        boats("no NOTES, by a RULE", h, 0, 256, 0, 0);
        h.note(7, 0, -1);
        boats("all of them", h, -1, 1, 255, 255);
        h.note(8, 0, -1);
        boats("YEAR 8 is told", h, -1, 1, 255, 255);
        h.note(9, 0, -1);
        boats("YEAR 9 is not", h, -1, 0, -2, 0);
        h.note(-1, 0, 0);
        h.note(7, 0, 0);
        boats("one of them at least is not", h, -1, 255, 0, 0);
        h.note(6, 0, -1);
        boats("all but YEAR 7", h, -1, 1, 127, 127);
        h.note(-1, 0, 0);
        h.note(0, 0, -1);
        boats("YEAR 0", h, -1, 128, 1, 1);
        h.note(1, 0, 0);
        boats("YEAR 0, not 1", h, -1, 64, 1, 1);
        // by RULE 0 they are joined and part in turn, when no boat is late
        h.note(2, 0, 0);
        boats("by none YEAR 2 is as it likes", h, -1, 64, 1, 1);
        boats("by RULE 0 YEAR 2 is late", h, 0, 32, 5, 5);
        HandFast far = with(PAIR + ";late 30", "stay 0");
        far.note(30, 0, 0);
        boats("an odd number of them is late, 30 as told", far, 0, 128, 1, 0);
        far.note(29, 0, -1);
        boats("what can't be", far, 0, 0, -2, 0);
        far.note(-1, 0, 0);
        far.note(30, 0, -1);
        boats("an even number of them is late, 30 as told", far, 0, 128, 0, 0);
        HandFast held = with(PAIR);
        held.hold();
        held.note(0, 0, 0);
        boats("what is held is not told", held, -1, 128, 0, 0);
        HandFast seven = with(PAIR, "stay 1", "stay 1", "stay 1", "stay 1", "stay 1", "stay 0");
        seven.note(1, 0, -1);
        boats("by RULE 4", seven, 4, 64, 3, 3);
        boats("by RULE 5", seven, 5, 128, 0, 0);
        boats("by RULE 6", seven, 6, -3, -3, -3);
    }

    private static void lookAt() {
        Due.terms("LOOK behind the n-th FAIR: the EAST by whom they were JOINED to then these RULES part best: the most alike are fewest, "
            + "of several the least; how many.");
        HandFast h = with(PAIR, "stay 1 if not year=1", "stay 1 if not year=30", "stay 1 if not year=31");
        look("all alike", h, 0, 0, 4);
        look("RULE 0 is not", h, 1, 0, 3);
        look("all alike", h, 29, 0, 4);
        look("RULE 1 is not", h, 30, 0, 3);
        h.note(30, 0, 0);
        look("RULE 1 isn't any more", h, 30, 0, 3);
        h.note(1, 0, -1);
        look("RULE 0 alone is so", h, 30, 0, 1);
        h.note(0, 0, -1);
        look("no RULE is so", h, 30, -2, -2);
        look("there are no EASTS", with("isle 0 0;west 0", "stay 1"), 30, -2, -2);
        look("none alone", with(PAIR), 0, 0, 1);
        look("RULES that are alike, not as none", with(PAIR, "stay 0", "stay 0"), 1, 0, 2);
        look("RULES that are alike, not as none", with(PAIR, "stay 1", "stay 0", "stay 0", "stay 0", "stay 0", "stay 0"), 1, 0, 5);
        HandFast seven = with(PAIR, "stay 1", "stay 1", "stay 1", "stay 1", "stay 1", "stay 1");
        look("six RULES and none", seven, 30, 0, 7);
        HandFast noted = with(PAIR, "stay 1 if not year=2");
        noted.note(0, 0, 0);
        look("from the begin on, too", noted, 2, 0, 1);
        look("from the begin on, too", noted, 3, 0, 2);
        // EAST 0 has WEST 1 or nobody, EAST 1 has WEST 0
        HandFast crossed = with("isle 0 0;east 0;east 0;west 0;west 0;seems 0 1 1 1;seems 1 0 1 1", "stay 1 if not side=0 or person=1", "stay 1");
        look("crossed pairs", crossed, 1, 0, 2);
        // behind FAIR 1 each of them is free by one RULE of 4
        HandFast three = with("isle 0 0;east 0;east 0;east 0;west 0;west 0;west 0;seems 0 0 1 1;seems 1 1 1 1;seems 2 2 1 1",
            "stay person", "stay 1 if person=0 or person=2", "stay 1 if person=0 or person=1");
        look("of several the least", three, 1, 0, 3);
        HandFast best = with("isle 0 0;east 0;east 0;east 0;west 0;west 0;west 0;seems 0 0 1 1;seems 1 1 1 1;seems 2 2 1 1",
            "stay 1-person", "stay 1 if person=0 or person=2", "stay 1");
        look("EAST 1 by 2 and 2", best, 1, 1, 2);
        HandFast tie = with("isle 0 0;east 0;east 0;east 0;west 0;west 0;west 0;seems 0 0 1 1;seems 1 1 1 1;seems 2 2 1 1",
            "stay 1-person", "stay 1 if person=0", "stay 1");
        look("EAST 1 and EAST 2 by 2", tie, 1, 1, 2);
        HandFast last = with("isle 0 0;east 0;east 0;east 0;east 0;west 0;west 0;west 0;west 0;seems 0 0 1 1;seems 1 1 1 1;seems 3 3 1 1",
            "stay 1 if not person=3");
        look("the last EAST", last, 1, 3, 1);
    }

    private static void draws() {
        Due.terms("DRAWS: x (0 to 2147483647; 0 at first) becomes x * 1103515245 + 12345, of 2147483648 the rest; a DRAW is x / 65536.");
        Due.is("x at first", 0, Due.of(PAIR).count(13));
        // the first draws mod 100: of 0 it is 0, of 2147483647 it is 29, then 9, of 194 it is 99
        int[][] rows = {{0, 0}, {2147483647, 29}, {194, 99}};
        for (int[] row : rows) {
            HandFast h = Due.of(PAIR);
            h.seed(row[0]);
            drawn("not below " + row[1], h, 1, 1, row[1], 1, 1);
            drawn("below " + (row[1] + 1), h, 1, 1, row[1] + 1, 0, 0);
        }
        HandFast most = Due.of(PAIR);
        most.seed(2147483647);
        drawn("29 and 9", most, 1, 2, 9, 1, 1);
        drawn("29 and 9, each in an ISLE", most, 2, 1, 9, 2, 2);
        drawn("29 and 9, each in an ISLE", most, 2, 1, 10, 1, 1);
        drawn("29 and 9, each in an ISLE", most, 2, 1, 30, 0, 0);
    }

    private static void islesOf() {
        Due.terms("ISLES m times (1 to 10) n FAIRS (1 to 30) from now on: ahead of each a DRAW mod 100: below p (0 to 100) its boat is late (as told, too): "
            + "how many are JOINED then; how often two were JOINED in these, all together (nothing stays; x as it was).");
        HandFast h = with(PAIR, "stay 1", "stay 1 if year<29", "stay 1 if year<30", "stay 0");
        h.force(0);
        drawn("one", h, 1, 1, 0, 1, 1);
        drawn("ten", h, 10, 1, 0, 10, 10);
        drawn("ten of thirty", h, 10, 30, 0, 10, 10);
        drawn("never", h, 10, 30, 100, 0, 0);
        h.force(1);
        drawn("parted at the 30th", h, 1, 30, 0, 0, 1);
        drawn("not at the 29th", h, 1, 29, 0, 1, 1);
        h.force(2);
        drawn("parted at the 31st", h, 1, 30, 0, 1, 1);
        h.force(3);
        drawn("in turn", h, 1, 30, 0, 0, 15);
        drawn("in turn", h, 10, 29, 0, 10, 150);
        int[][] odd = {{0, 1, 0}, {11, 1, 0}, {1, 0, 0}, {1, 31, 0}, {1, 1, -1}, {1, 1, 101}};
        for (int[] o : odd) drawn("not as told", h, o[0], o[1], o[2], -1, -1);
        drawn("late as told", Due.of(PAIR + ";late 0"), 1, 1, 0, 0, 0);
        drawn("late as told, a draw is drawn for it", Due.of(PAIR + ";late 0"), 1, 2, 68, 1, 1);
        drawn("late as told, a draw is drawn for it", Due.of(PAIR + ";late 0"), 1, 2, 69, 0, 0);
        HandFast now = with(PAIR);
        now.fair();
        drawn("from now on", now, 10, 1, 100, 10, 0);
        now.hold();
        drawn("as held", now, 10, 1, 0, 10, 0);
        Due.is("x as it was", 0, now.count(13));
        Due.is("nothing stays", 1, now.count(6));
        HandFast four = Due.of("isle 0 0;east 0;east 0;east 0;east 0;west 0;west 0;west 0;west 0;seems 0 0 1 1;seems 1 1 1 1;seems 2 2 1 1;seems 3 3 1 1");
        drawn("four pairs, ten times", four, 10, 2, 0, 40, 40);
        drawn("EAST 0 and WEST 3", Due.of("isle 0 0;east 0;west 0;west 0;west 0;west 0;seems 0 3 1 1"), 10, 2, 0, 10, 10);
        drawn("EAST 3 and WEST 0", Due.of("isle 0 0;east 0;east 0;east 0;east 0;west 0;seems 3 0 1 1"), 10, 2, 0, 10, 10);
    }

    private static void images() {
        Due.terms("IMAGES 0 to 3: all but the TAPE and the RULES, as it is (the RULE IN FORCE, too); gone back to, it is as it was "
            + "(these stay; nothing can be UNDONE then).");
        HandFast h = with("isle 10 2;east 50;west 7;seems 0 0 9 8;truly 0 0 1 1;late 2", "stay 1");
        for (int k = 0; k < 4; k++) {
            Due.is("image(" + k + ")", k, h.image(k));
            h.seed(100 + k);
            h.note(k, 0, 0);
            h.force(k % 2 - 1);
            if (k == 1) h.hold();
            h.fair();
        }
        Due.isle(h, "isle 0 0");
        Due.rule(h, "stay 2");
        h.force(1);
        Due.tape(h, "tape");
        for (int k = 3; k >= 0; k--) {
            Due.is("back(" + k + ")", k, h.back(k));
            Due.is("GIFT", 10, h.count(0));
            Due.is("STAY", 2, h.count(1));
            Due.is("EASTS", 1, h.count(2));
            Due.is("WESTS", 1, h.count(3));
            Due.is("RULES stay", 2, h.count(4));
            Due.is("the RULE IN FORCE", k == 0 ? -1 : k % 2 == 1 ? -1 : 0, h.count(5));
            Due.is("YEAR", k, h.count(6));
            Due.is("EASTS JOINED", k == 0 ? 0 : 1, h.count(7));
            Due.is("WESTS JOINED", k == 0 ? 0 : 1, h.count(8));
            Due.is("late now", k == 2 ? 1 : 0, h.count(9));
            Due.is("late", k >= 2 ? 2 : 1, h.count(10));
            Due.is("NOTES", k, h.count(11));
            Due.is("nothing to be UNDONE", 0, h.count(12));
            Due.is("undo", -1, h.undo());
            Due.is("x", k == 0 ? 0 : 99 + k, h.count(13));
            Due.is("the TAPE stays", 4, h.count(14));
            Due.is("PURSE", k == 0 ? 50 : 40, h.east(0, 0));
            Due.is("PURSE", k == 0 ? 7 : 17, h.west(0, 0));
            Due.is("YEARS", k, h.east(0, 2));
            Due.is("JOININGS", k == 0 ? 0 : 1, h.west(0, 3));
            Due.is("LIKES", 9 - k, h.likes(0, 0, 0));
            Due.is("truly", 1, h.likes(0, 0, 3));
            Due.is("the begin: NOTES 0 to " + (k - 1) + " are so", 3, h.ruled(0));
            h.hold();
            h.fair();
            Due.is("an ACT can be UNDONE again", k == 2 ? 0 : 1, h.undo());
        }
        HandFast noted = with(PAIR, "stay 0", "stay 1 if not year=3");
        for (int i = 0; i < 10; i++) noted.note(1, 0, -1);
        noted.image(0);
        noted.note(-1, 0, 0);
        for (int i = 0; i < 10; i++) noted.note(i, 0, 0);
        ruled("other NOTES", noted, 1, -1);
        noted.back(0);
        ruled("the NOTES of the IMAGE", noted, 1, 0);
        HandFast two = with("isle 0 0;east 0;east 0;west 0;west 0;seems 0 1 1 1;seems 1 0 1 1");
        two.note(0, 0, 1);
        two.note(0, 1, 0);
        two.image(0);
        two.note(-1, 0, 0);
        two.note(0, 1, 1);
        two.note(0, 0, 0);
        ruled("other NOTES", two, 0, -2);
        two.back(0);
        ruled("the NOTES of the IMAGE", two, 1, -1);
        Due.is("image(4)", -1, h.image(4));
        Due.is("image(-1)", -1, h.image(-1));
        Due.is("an IMAGE anew", 0, h.image(3));
        Due.is("in place of what it was", 0, h.back(3));
        Due.is("the others stay", 2, h.back(2));
    }

    public static void main(String[] args) {
        notes();
        ruledBy();
        boatsOf();
        lookAt();
        draws();
        islesOf();
        images();
        Due.finish();
    }
}
