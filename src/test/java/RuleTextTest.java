/** Promises 5 and 6: the text of a rule, its faults, and what it means. */
public final class RuleTextTest {
    static void good(String text) {
        HandFast h = new HandFast();
        Due.is("rule: " + text, 0, Due.rule(h, text));
        Due.is("the tape is empty behind: " + text, 0, h.count(14));
        Due.is("RULES", 1, h.count(4));
    }

    static void bad(String text, int place, int kind) {
        HandFast h = new HandFast();
        Due.is("rule: " + text, Due.fault(place, kind), Due.rule(h, text));
        Due.is("the tape is empty behind: " + text, 0, h.count(14));
        Due.is("no rule by: " + text, 0, h.count(4));
    }

    private static void misplaced() {
        bad("", 0, 0);
        bad("stay", 4, 0);
        bad("stay  ", 6, 0);
        bad("stays 1", 0, 0);
        bad("stay x", 5, 0);
        bad("stayz 1", 0, 0);
        bad("staya 1", 0, 0);
        bad("stay giftz", 5, 0);
        bad(Due.repeat(" ", 396) + "stay", 400, 0);
        bad("stay 1;", 7, 0);
        bad("stay 1 if", 9, 0);
        bad("stay 1 iff 1=1", 7, 0);
        bad("stay 1 if 1", 11, 0);
        bad("stay 1 if 1 =", 13, 0);
        bad("stay 1 if best = 1]", 18, 0);
        bad("stay 1 if [best = 1", 19, 0);
        bad("stay 1 if [best = 1;", 19, 0);
        bad("stay 5 %", 8, 0);
        bad("stay -5", 5, 0);
        bad("stay 5 + + 5", 9, 0);
        bad("stay [1]", 5, 0);
        bad("stay not", 5, 0);
        bad("stay 1 2", 7, 0);
        bad("stay 1 or 1", 7, 0);
        bad("stay 1 if 1 < = 2", 14, 0);
        bad("stay 1 if 1 =< 2", 13, 0);
        bad("stay 1 if 1 <> 2", 13, 0);
        bad("stay 1 if 1 = 2 = 3", 16, 0);
        bad("stay 1 if [1 = 2] = 3", 18, 0);
        bad("stay 1 if 1 = 2 and", 19, 0);
        bad("stay 1 if 1 = 2 or or", 19, 0);
        bad("stay 1 if 1 = 2 orr 1 = 1", 16, 0);
        bad("stay 1 if 1 = 2 if 1 = 1", 16, 0);
        bad("stay 1 if [1] = 1", 12, 0);
        bad("stay 1 if not", 13, 0);
        bad("stay 1 if stay", 10, 0);
        bad("stay 1 if lik es = 1", 10, 0);
        bad("isle 0 0", 0, 0);
        bad("stay 1\0", 6, 0);
    }

    private static void numbers() {
        good("stay 99999");
        good("stay 00000");
        bad("stay 100000", 5, 1);
        bad("stay 1 if 000000 = 1", 10, 1);
        bad("stay likes * 123456 x", 13, 1);
    }

    private static void depth() {
        good("stay 1 if " + Due.repeat("[", 10) + "1=1" + Due.repeat("]", 10));
        good("stay 1 if " + Due.repeat("not ", 10) + "1=1");
        good("stay 1 if " + Due.repeat("not[", 5) + "1=1" + Due.repeat("]", 5) + " and " + Due.repeat("[", 10) + "1=1" + Due.repeat("]", 10));
        bad("stay 1 if " + Due.repeat("[", 11) + "1=1" + Due.repeat("]", 11), 20, 2);
        bad("stay 1 if " + Due.repeat("not ", 11) + "1=1", 50, 2);
        bad("stay 1 if " + Due.repeat("not[", 5) + " not x", 31, 2);
        bad("stay 1 if " + Due.repeat("[not ", 5) + "[", 35, 2);
    }

    private static void values() {
        String sixty = "stay 1" + Due.repeat("+1", 59);
        good(sixty);
        bad(sixty + "+1", sixty.length() + 1, 3);
        bad(sixty + "+likes", sixty.length() + 1, 3);
        bad(sixty + "+like", sixty.length() + 1, 0);
        bad(sixty + "+111111", sixty.length() + 1, 1);
        bad(sixty + "+", sixty.length() + 1, 0);
        bad(sixty + ";stay 1", sixty.length() + 6, 3);
        String most = "stay 1" + Due.repeat("+1", 56);
        good(most + " if 1=1");
        bad("stay 1" + Due.repeat("+1", 57) + " if 1=1", 6 + 114 + 6, 3);
        bad("stay 1" + Due.repeat("+1", 58) + " if 1 = 1", 6 + 116 + 6, 3);
        bad("stay 1" + Due.repeat("+1", 58) + " if 1 1", 6 + 116 + 6, 0);
        bad(most + " if 1=1 and 1=1", most.length() + 12, 3);
    }

    private static void clauses() {
        String twelve = "stay 1" + Due.repeat(";stay 1", 11);
        good(twelve);
        bad(twelve + ";stay 1", twelve.length() + 1, 4);
        bad(twelve + "; stay", twelve.length() + 2, 4);
        bad(twelve + ";stai 1", twelve.length() + 1, 0);
        bad(twelve + ";", twelve.length() + 1, 0);
    }

    private static void six() {
        HandFast h = new HandFast();
        for (int i = 0; i < 6; i++) {
            Due.is("rule " + i, i, Due.rule(h, "stay " + i));
        }
        Due.tape(h, "stay 7");
        Due.is("a seventh", -1, h.rule());
        Due.is("the tape stays", 6, h.count(14));
        Due.is("RULES", 6, h.count(4));
        Due.is("force(5)", -1, h.force(5));
        Due.is("force(6)", -2, h.force(6));
        Due.is("force(-2)", -2, h.force(-2));
        Due.is("RULE IN FORCE", 5, h.count(5));
        Due.is("force(0)", 5, h.force(0));
        Due.is("force(NONE)", 0, h.force(-1));
        Due.is("RULE IN FORCE", -1, h.count(5));
    }

    /** Whether a pair of EAST 1 and WEST 2 stay; likes 7, liked 9 of the east, purses 30 and 40. */
    static boolean stays(String rule) {
        HandFast h = Due.of("isle 10 0;east 9;east 40;east 8;west 5;west 6;west 30;west 1;seems 1 2 7 9;seems 1 0 5 0;"
            + "seems 1 3 20 1;seems 2 2 0 4;seems 0 3 1 1");
        h.join(0, 3);
        h.join(1, 2);
        h.fair();
        h.fair();
        h.fair();
        if (h.east(1, 1) != 2) throw new IllegalStateException("not joined");
        if (Due.rule(h, rule) != 0) throw new IllegalStateException("a fault in " + rule);
        h.force(0);
        h.fair();
        // they can't be joined again at the same fair
        return h.east(1, 1) == 2;
    }

    static void stay(String rule) {
        Due.holds("they stay by: " + rule, stays(rule));
    }

    static void leave(String rule) {
        Due.holds("they part by: " + rule, !stays(rule));
    }

    private static void words() {
        String[] east = {"side = 0", "person = 1", "other = 2", "likes = 7", "liked = 9", "years = 3", "purse = 30", "gift = 10",
            "best = 5", "year = 3", "hands = 1"};
        String[] west = {"side = 1", "person = 2", "other = 1", "likes = 9", "liked = 7", "years = 3", "purse = 40", "gift = 10",
            "best = 4", "year = 3", "hands = 1"};
        for (String fact : east) {
            stay("stay 1 if side = 1 or person = 0; stay 1 if " + fact);
            leave("stay 1 if side = 1 or person = 0; stay 1 if not " + fact);
        }
        for (String fact : west) {
            stay("stay 1 if side = 0 or person = 3; stay 1 if " + fact);
            leave("stay 1 if side = 0 or person = 3; stay 1 if not " + fact);
        }
    }

    private static void meanings() {
        stay("stay 1");
        leave("stay 0");
        leave("stay 1 - 2");
        leave("stay 1 if 1 = 2");
        stay("stay 0 if 1 = 2; stay 1");
        leave("stay 0; stay 1");
        leave("stay 0 if 1 = 1; stay 1");
        stay("stay 2 + 3 * 4 - 13");
        leave("stay 2 + 3 * 4 - 14");
        stay("stay 10 - 4 - 5");
        leave("stay 10 - 4 - 6");
        stay("stay 100 / 7 / 2 - 6");
        leave("stay 100 / 7 / 2 - 7");
        stay("stay 17 % 10 * 2 - 13");
        leave("stay 17 % 10 * 2 - 14");
        leave("stay 5 / 0");
        leave("stay 5 % 0");
        stay("stay 1 + 5 / 0 + 5 % 0");
        stay("stay 1 if 0 - 7 / 2 = 0 - 3");
        stay("stay 1 if side * 0 - 7 % 4 + 3 = 0");
        // (0 - 7) / 2 needs a value below 0 at the left of /: by going round in 64 bits
        String big = "99999*99999*99999*9223";
        stay("stay 1 if " + big + " > 0");
        stay("stay 1 if " + big + "+" + big + " < 0");
        stay("stay 1 if 50000*50000*50000*50000*50000 < 0");
        stay("stay 1 if 50000*50000*50000*50000*50000 % 7 < 0");
        stay("stay 1 if 1 < 2");
        leave("stay 1 if 2 < 2");
        stay("stay 1 if 2 <= 2");
        leave("stay 1 if 3 <= 2");
        stay("stay 1 if 2 = 2");
        leave("stay 1 if 2 = 3");
        stay("stay 1 if 2 >= 2");
        leave("stay 1 if 1 >= 2");
        stay("stay 1 if 3 > 2");
        leave("stay 1 if 2 > 2");
        stay("stay 1 if 1 = 1 or 1 = 2 and 1 = 2");
        leave("stay 1 if [1 = 1 or 1 = 2] and 1 = 2");
        leave("stay 1 if not 1 = 1 or 1 = 2");
        stay("stay 1 if not 1 = 2 and 1 = 1");
        leave("stay 1 if not [1 = 2 or 1 = 1]");
        stay("stay 1 if not not 1 = 1");
        stay("stay1if1=1and2=2");
        stay("stay 1 if 2<=2 and 3>=3 and 2<3 and 3>2 and 3=3");
        leave("stay 1 if 2<=1 or 3>=4 or 2<2 or 3>3 or 3=4");
        leave("stay 1 if side = 0");
        leave("stay 1 if side = 1");
        leave("stay side");
        leave("stay 1 - side");
    }

    public static void main(String[] args) {
        misplaced();
        numbers();
        depth();
        values();
        clauses();
        six();
        words();
        meanings();
        Due.finish();
    }
}
