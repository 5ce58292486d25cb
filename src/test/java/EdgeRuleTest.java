import java.util.function.Consumer;

/** The text of a RULE and what it means: a test for each sentence of the document that names a boundary. */
public final class EdgeRuleTest {
    private static final String MINUS_SEVEN = "35969*40791*62887*31923*739";
    private static final String MINUS_ONE = "79531*49311*72881*32581*311";
    private static final String LEAST = "32768*32768*32768*32768*8";

    private static void good(String text) {
        RuleTextTest.good(text);
    }

    private static void bad(String text, int place, int kind) {
        RuleTextTest.bad(text, place, kind);
    }

    private static void stay(String rule) {
        RuleTextTest.stay(rule);
    }

    private static void leave(String rule) {
        RuleTextTest.leave(rule);
    }

    private static void holds(String test) {
        stay("stay 1 if " + test);
        leave("stay 1 if not [" + test + "]");
    }

    private static void twelveClauses() {
        Due.terms("RULES 0 to 5: texts likewise, 12 CLAUSES at most: stay SUM [ if TEST ].");
        String eleven = "stay 0 if 1 = 2" + Due.repeat(";stay 0 if 1 = 2", 10);
        stay(eleven + ";stay 1");
        bad(eleven + ";stay 1;stay 1", eleven.length() + 8, 4);
        stay("stay 1");
        bad("", 0, 0);
        bad("stay 1;", 7, 0);
        bad(";stay 1", 0, 0);
        bad("stay if 1 = 1", 5, 0);
        bad("stay 1 if", 9, 0);
        bad("stay 1 1 = 1", 7, 0);
        stay("stay 0" + Due.repeat(" ", 392) + "+1");
        leave("stay 1" + Due.repeat(" ", 392) + "-1");
        bad("stay 0" + Due.repeat(" ", 393) + "+", 400, 0);
        HandFast h = new HandFast();
        Due.tape(h, "stay 0" + Due.repeat(" ", 392) + "+1");
        Due.is("one byte more can't come", -1, h.feed(0x31000000, 0, 0, 0, 0));
        Due.is("a RULE of 400 bytes", 0, h.rule());
    }

    private static void testsAndParts() {
        Due.terms("TEST: PART { or PART }. PART: FACT { and FACT }.");
        for (int bits = 0; bits < 8; bits++) {
            boolean a = (bits & 4) != 0;
            boolean b = (bits & 2) != 0;
            boolean c = (bits & 1) != 0;
            String[] f = {a ? "1=1" : "1=2", b ? "2=2" : "2=1", c ? "3=3" : "3=1"};
            verdict(f[0] + " or " + f[1] + " and " + f[2], a || b && c);
            verdict(f[0] + " and " + f[1] + " or " + f[2], a && b || c);
            verdict(f[0] + " or " + f[1] + " or " + f[2], a || b || c);
            verdict(f[0] + " and " + f[1] + " and " + f[2], a && b && c);
            verdict("[" + f[0] + " or " + f[1] + "] and " + f[2], (a || b) && c);
            verdict("not " + f[0] + " and " + f[1] + " or " + f[2], !a && b || c);
            verdict("not [" + f[0] + " and " + f[1] + "] or " + f[2], !(a && b) || c);
        }
        holds("1<2 and 2<=2 and 3=3 and 3>=3 and 3>2 and 2<3");
        holds("2<1 or 2<=1 or 3=2 or 2>=3 or 2>3 or 3>2");
        holds("2<1 or 2<=1 or 3=2 or 2>=3 or 1<2");
        holds("not 1<2 or not 1<=2 or not 2>=1 or not 2>1 or not 2=2 or 1<=2");
        bad("stay 1 if or 1=1", 10, 0);
        bad("stay 1 if 1=1 or", 16, 0);
        bad("stay 1 if 1=1 and", 17, 0);
        bad("stay 1 if 1=1 1=1", 14, 0);
    }

    private static void verdict(String test, boolean so) {
        Due.holds(test + " is " + so, RuleTextTest.stays("stay 1 if " + test) == so);
    }

    private static void facts() {
        Due.terms("FACT: not FACT | [ TEST ] (these brackets are signs) | SUM SIGN SUM, SIGN one of < <= = >= >.");
        String[] signs = {"<", "<=", "=", ">=", ">"};
        boolean[][] so = {{true, false, false}, {true, true, false}, {false, true, false}, {false, true, true}, {false, false, true}};
        for (int i = 0; i < signs.length; i++) {
            verdict("6" + signs[i] + "7", so[i][0]);
            verdict("7" + signs[i] + "7", so[i][1]);
            verdict("8" + signs[i] + "7", so[i][2]);
            // the least and the most of 64 bits are as far apart as can be
            verdict(LEAST + signs[i] + LEAST + "-1", so[i][0]);
            verdict(LEAST + "-1" + signs[i] + LEAST, so[i][2]);
        }
        bad("stay 1 if 1 < = 2", 14, 0);
        bad("stay 1 if 1 > = 2", 14, 0);
        bad("stay 1 if 1 == 2", 13, 0);
        bad("stay 1 if 1 => 2", 13, 0);
        bad("stay 1 if 1 <> 2", 13, 0);
        bad("stay 1 if 1 <== 2", 14, 0);
        bad("stay 1 if 1", 11, 0);
        bad("stay 1 if 1 =", 13, 0);
        bad("stay 1 if []", 11, 0);
        bad("stay 1 if [1=1", 14, 0);
        bad("stay 1 if 1=1]", 13, 0);
        bad("stay 1 if not", 13, 0);
        bad("stay 1 if (1=1)", 10, 0);
    }

    private static void sums() {
        Due.terms("SUM: TERM { (+ or -) TERM }. TERM: VALUE { (* or / or %) VALUE }.");
        holds("10-4-3=3");
        holds("10-4+3=9");
        holds("2+3*4=14");
        holds("2*3+4=10");
        holds("2*3+4*5=26");
        holds("20-3*4-2=6");
        holds("100/7/2=7");
        holds("100/7*2=28");
        holds("100%7*2=4");
        holds("3*100%7=6");
        holds("17%10/2=3");
        bad("stay 1+", 7, 0);
        bad("stay 1*", 7, 0);
        bad("stay +1", 5, 0);
        bad("stay -1", 5, 0);
        bad("stay 1--1", 7, 0);
        bad("stay 1*-1", 7, 0);
    }

    private static void numbers() {
        Due.terms("VALUE: NUMBER (1 to 5 digits, as far as digits go on) | WORD.");
        holds("00000=0");
        holds("00007=7");
        holds("99999=10000*10-1");
        bad("stay 100000", 5, 1);
        bad("stay 000001", 5, 1);
        bad("stay 1 if 1=" + Due.repeat("0", 388), 12, 1);
        bad("stay 12 34", 8, 0);
        bad("stay ", 5, 0);
    }

    private static void words() {
        Due.terms("WORDS (small letters, as far as these go on) of one who is joined and the other one");
        String[] all = {"side", "person", "other", "likes", "liked", "years", "purse", "gift", "best", "year", "hands"};
        for (String word : all) {
            good("stay " + word);
            bad("stay " + word + "x", 5, 0);
            bad("stay " + word + "a", 5, 0);
            bad("stay " + word + "z", 5, 0);
            bad("stay x" + word, 5, 0);
            // but years without its s is another word
            if (!word.equals("years")) bad("stay " + word.substring(0, word.length() - 1), 5, 0);
            bad("stay " + word.toUpperCase(), 5, 0);
            bad("stay " + word + "1", 5 + word.length(), 0);
            bad("stay " + word + word, 5, 0);
        }
        bad("stay stay", 5, 0);
        bad("stay if", 5, 0);
        bad("stay 1 if not not", 17, 0);
        bad("stay 1 if and", 10, 0);
    }

    /** Whether a WORD has a value for the one of a side, who is joined as EAST east, now. */
    private static void wordIs(String word, long value, int side, int east, Consumer<HandFast> making) {
        for (int right = 0; right < 2; right++) {
            HandFast h = new HandFast();
            making.accept(h);
            int person = side == 0 ? east : h.east(east, 1);
            String others = "stay 1 if not side=" + side + " or not person=" + person + ";";
            Due.is("a RULE", 0, Due.rule(h, others + "stay 1 if " + (right == 1 ? "" : "not ") + word + "=" + value));
            h.force(0);
            Due.is(word + " of side " + side + " is " + value, right == 1 ? 1 : 0, h.lasts(east) == h.count(6) ? 0 : 1);
        }
    }

    private static void corner(HandFast h) {
        Due.isle(h, "isle 99 0;east 0;east 0;east 0;east 999;west 999;west 0;west 0;west 0;seems 3 0 20 1;truly 3 0 0 1;seems 0 3 1 20");
        h.join(3, 0);
        h.join(0, 3);
    }

    private static void older(HandFast h) {
        corner(h);
        h.fair();
    }

    /** Twenty FAIRS later EAST 3 LIKES nobody, and has been joined to the same one twice. */
    private static void old(HandFast h) {
        corner(h);
        h.part(3);
        h.join(3, 0);
        for (int i = 0; i < 21; i++) h.fair();
    }

    private static void whoOneIs() {
        Due.terms("side (0 east, 1 west), person, other (its number on its side)");
        wordIs("side", 0, 0, 3, EdgeRuleTest::corner);
        wordIs("side", 1, 1, 3, EdgeRuleTest::corner);
        wordIs("person", 3, 0, 3, EdgeRuleTest::corner);
        wordIs("person", 0, 1, 3, EdgeRuleTest::corner);
        wordIs("other", 0, 0, 3, EdgeRuleTest::corner);
        wordIs("other", 3, 1, 3, EdgeRuleTest::corner);
        wordIs("person", 0, 0, 0, EdgeRuleTest::corner);
        wordIs("other", 3, 0, 0, EdgeRuleTest::corner);
    }

    private static void howOneLikes() {
        Due.terms("likes (how much they LIKE the other one now), liked (how much they are)");
        wordIs("likes", 20, 0, 3, EdgeRuleTest::corner);
        wordIs("liked", 1, 0, 3, EdgeRuleTest::corner);
        wordIs("likes", 1, 1, 3, EdgeRuleTest::corner);
        wordIs("liked", 20, 1, 3, EdgeRuleTest::corner);
        wordIs("likes", 19, 0, 3, EdgeRuleTest::older);
        wordIs("likes", 0, 0, 3, EdgeRuleTest::old);
        wordIs("liked", 0, 1, 3, EdgeRuleTest::old);
    }

    private static void howLong() {
        Due.terms("years (how long they have been joined), purse, gift");
        wordIs("years", 0, 0, 3, EdgeRuleTest::corner);
        wordIs("years", 1, 1, 3, EdgeRuleTest::older);
        wordIs("years", 21, 0, 3, EdgeRuleTest::old);
        wordIs("purse", 900, 0, 3, EdgeRuleTest::corner);
        wordIs("purse", 1098, 1, 3, EdgeRuleTest::corner);
        wordIs("purse", 0, 0, 0, EdgeRuleTest::corner);
        wordIs("gift", 99, 0, 3, EdgeRuleTest::corner);
        wordIs("gift", 0, 1, 0, h -> {
            Due.isle(h, "isle 0 0;east 5;west 5;seems 0 0 1 1");
            h.join(0, 0);
        });
    }

    private static void best() {
        Due.terms("best (the most they LIKE anybody else of the other side who is free now; 0)");
        String isle = "isle 0 0;east 0;east 0;east 0;west 0;west 0;west 0;seems 0 0 9 9;seems 0 1 5 0;seems 0 2 3 3;seems 1 2 4 4;"
            + "seems 1 0 1 6;seems 2 0 0 20;seems 2 1 1 1";
        wordIs("best", 5, 0, 0, h -> free(h, isle));
        wordIs("best", 20, 1, 0, h -> free(h, isle));
        wordIs("best", 5, 0, 0, h -> joined(h, isle, 1, 2));
        wordIs("best", 3, 0, 0, h -> joined(h, isle, 2, 1));
        wordIs("best", 6, 1, 0, h -> joined(h, isle, 2, 1));
        // of others than the first, on sides that are not alike
        String wide = "isle 0 0;east 0;east 0;west 0;west 0;west 0;west 0;seems 1 2 9 9;seems 1 3 7 0;seems 0 3 8 2;seems 0 2 6 5;seems 1 0 2 1";
        wordIs("best", 7, 0, 1, h -> joined(h, wide, 1, 2));
        wordIs("best", 5, 1, 1, h -> joined(h, wide, 1, 2));
        String tall = "isle 0 0;east 0;east 0;east 0;east 0;west 0;west 0;seems 2 1 9 9;seems 3 1 0 7;seems 3 0 2 8;seems 2 0 5 6;seems 0 1 1 2";
        wordIs("best", 5, 0, 2, h -> joined(h, tall, 2, 1));
        wordIs("best", 7, 1, 2, h -> joined(h, tall, 2, 1));
        // nobody else is free
        wordIs("best", 0, 0, 0, h -> free(h, "isle 0 0;east 0;west 0;seems 0 0 9 9"));
        wordIs("best", 0, 1, 0, h -> free(h, "isle 0 0;east 0;west 0;seems 0 0 9 9"));
        // who is free is not liked
        wordIs("best", 0, 0, 0, h -> free(h, "isle 0 0;east 0;east 0;west 0;west 0;seems 0 0 9 9;seems 0 1 0 9"));
        wordIs("best", 0, 1, 0, h -> free(h, "isle 0 0;east 0;east 0;west 0;west 0;seems 0 0 9 9;seems 1 0 9 0"));
    }

    private static void free(HandFast h, String isle) {
        Due.isle(h, isle);
        h.join(0, 0);
    }

    private static void joined(HandFast h, String isle, int east, int west) {
        free(h, isle);
        h.join(east, west);
    }

    private static void yearAndHands() {
        Due.terms("year, hands (how many they have been joined to so far, this one too)");
        wordIs("year", 0, 0, 3, EdgeRuleTest::corner);
        wordIs("year", 21, 1, 3, EdgeRuleTest::old);
        wordIs("hands", 1, 0, 3, EdgeRuleTest::corner);
        wordIs("hands", 1, 1, 3, EdgeRuleTest::older);
        wordIs("hands", 2, 0, 3, EdgeRuleTest::old);
        wordIs("hands", 2, 1, 3, EdgeRuleTest::old);
        wordIs("hands", 1, 0, 0, EdgeRuleTest::old);
    }

    private static void division() {
        Due.terms("/ is towards 0, % its rest, both 0 by 0; all goes round in 64 bits.");
        holds("7/2=3");
        holds("7%2=1");
        holds(MINUS_SEVEN + "/2=0-3");
        holds(MINUS_SEVEN + "%2=0-1");
        holds(MINUS_SEVEN + "/7=0-1");
        holds(MINUS_SEVEN + "%7=0");
        holds(MINUS_SEVEN + "/8=0");
        holds(MINUS_SEVEN + "%8=0-7");
        holds("7/0=0");
        holds("7%0=0");
        holds("0/0=0");
        holds("0%0=0");
        holds(MINUS_SEVEN + "/0=0");
        holds(MINUS_SEVEN + "%0=0");
        holds("5/0+3=3");
        holds("5%0*3+1=1");
        holds("5/side/2=5/2*side");
        holds(MINUS_SEVEN + "=0-7");
        holds(MINUS_ONE + "+1=0");
        holds(LEAST + "<0");
        holds(LEAST + "-1>0");
        holds("0-" + LEAST + "=" + LEAST);
        holds(LEAST + "*2=0");
        holds("65536*65536>0");
        holds("65536*32768*2=65536*65536");
        leave("stay " + LEAST);
        stay("stay " + LEAST + "-1");
        leave("stay " + MINUS_ONE);
        stay("stay 65536*65536");
        leave("stay 65536*65536*65536*65536");
    }

    private static void blanks() {
        Due.terms("Blanks (32) stand between as one likes.");
        stay("stay1if1=1and2<=2or[3>4]");
        stay("   stay   1   if   not   [   1   =   2   ]   and   2   <=   2   +   1   ");
        bad("st ay 1", 0, 0);
        bad("stay 1 i f 1=1", 7, 0);
        bad("stay 1 if 1=1 an d 1=1", 14, 0);
        bad("stay 1 if 1=1 o r 1=1", 14, 0);
        bad("stay 1 if n ot 1=1", 10, 0);
        bad("stay 1 if pur se=1", 10, 0);
        for (int b = 0; b < 256; b++) {
            if (b != ' ') {
                String sign = String.valueOf((char) b);
                boolean letter = b >= 'a' && b <= 'z';
                boolean digit = b >= '0' && b <= '9';
                if (digit) good("stay" + sign + "1");
                else bad("stay" + sign + "1", letter ? 0 : 4, 0);
            }
        }
    }

    private static void depth() {
        Due.terms("[ and not lie within one another 10 deep at most");
        stay("stay 1 if " + Due.repeat("[", 10) + "1=1" + Due.repeat("]", 10));
        stay("stay 1 if " + Due.repeat("not ", 10) + "1=1");
        leave("stay 1 if " + Due.repeat("not ", 9) + "1=1");
        stay("stay 1 if " + Due.repeat("not [", 5) + "1=2" + Due.repeat("]", 5));
        String ten = Due.repeat("[not ", 5) + "1=1" + Due.repeat("]", 5);
        good("stay 1 if " + ten + " and " + ten + " or " + ten + ";stay 1 if " + ten);
        Due.terms("2 too deep (at the sign that opens, or the word not)");
        bad("stay 1 if " + Due.repeat("[", 11), 20, 2);
        bad("stay 1 if " + Due.repeat("not ", 11), 50, 2);
        bad("stay 1 if " + Due.repeat("not ", 10) + "  [1=1]", 52, 2);
        bad("stay 1 if " + Due.repeat("[", 10) + "  not 1=1", 22, 2);
        bad("stay 1 if " + Due.repeat("[", 10) + "1=1 and [", 28, 2);
        bad("stay 1 if " + Due.repeat("[", 10) + "1=1 or not", 27, 2);
        bad("stay 1 if " + Due.repeat("[", 10) + "1=1] and [ [", 31, 2);
        bad("stay 1 if " + Due.repeat("[", 300), 20, 2);
    }

    private static void sixty() {
        Due.terms("at most 60 VALUES (of SUMS) and FACTS made of a SIGN, together.");
        stay("stay 1" + Due.repeat("+0", 59));
        stay("stay 0" + Due.repeat("+0", 58) + "+1");
        stay("stay 1" + Due.repeat("+0", 56) + " if 1=1");
        // 20 facts of 3, but for the sum; brackets and not aren't counted
        String facts = "1=1" + Due.repeat(" and 1=1", 18);
        stay("stay 1+0+0 if " + facts);
        stay("stay 1+0+0 if not not [[ " + facts + " ]]");
        stay("stay 1*1*1 if 0=1;stay 1" + Due.repeat("+0", 53));
        HandFast each = new HandFast();
        for (int i = 0; i < 6; i++) Due.is("60 of each RULE", i, Due.rule(each, "stay 1" + Due.repeat("+0", 59)));
        Due.terms("3 one VALUE or FACT too many (at its first byte; of a FACT at its SIGN)");
        String sixty = "stay 1" + Due.repeat("+0", 59);
        bad(sixty + "+  0", 127, 3);
        bad(sixty + "*year", 125, 3);
        bad(sixty + ";stay   side", 132, 3);
        bad(sixty + " if  7=7", 129, 3);
        String fiftyNine = "stay 1" + Due.repeat("+0", 58);
        bad(fiftyNine + " if 7  <= 7", 129, 3);
        bad("stay 1" + Due.repeat("+0", 57) + " if 7<=  7", 129, 3);
        bad("stay 1+0+0 if " + facts + " and 1=1", 166, 3);
        bad("stay 1+0+0+0 if " + facts, 162, 3);
    }

    /** Of a text with a fault nothing is left in the RULE that comes behind it. */
    private static void behindFaults() {
        Due.promise(5, "-2 - its FAULT");
        String[] bad = {"stay 0;stay", "stay 0" + Due.repeat(";stay 0", 12), "stay 0" + Due.repeat("+0", 60), "stay 0 if 1=1 or " + Due.repeat("[", 11)};
        for (String text : bad) {
            HandFast h = Due.of("isle 0 0;east 0;west 0;seems 0 0 5 5");
            h.join(0, 0);
            Due.holds("a fault in " + text, Due.rule(h, text) < -2);
            Due.is("a RULE behind it", 0, Due.rule(h, "stay 1 if year<7"));
            h.force(0);
            Due.is("LASTS by it alone", 7, h.lasts(0));
        }
        HandFast many = Due.of("isle 0 0;east 0;west 0;seems 0 0 5 5");
        many.join(0, 0);
        for (int i = 0; i < 9; i++) Due.is("a fault", Due.fault(124, 0), Due.rule(many, "stay 0" + Due.repeat("+0", 59) + "?"));
        Due.is("a RULE behind nine faults", 0, Due.rule(many, "stay 1 if year<7"));
        many.force(0);
        Due.is("LASTS by it alone", 7, many.lasts(0));
    }

    private static void faults() {
        Due.terms("0 a byte or WORD that can't stand there, or the end (behind the last byte)");
        for (int b = 0; b < 256; b++) {
            String sign = String.valueOf((char) b);
            boolean digit = b >= '0' && b <= '9';
            boolean operator = "+-*/%".indexOf(b) >= 0;
            boolean comparer = "<=>".indexOf(b) >= 0;
            if (digit || b == ' ') good("stay 1" + sign);
            else bad("stay 1" + sign, operator || b == ';' ? 7 : 6, 0);
            bad("stay 1 if 1" + sign, digit || operator || comparer || b == ' ' ? 12 : 11, 0);
            if (digit || b == ' ') good("stay 1 if 1=1" + sign);
            else bad("stay 1 if 1=1" + sign, operator || b == ';' ? 14 : 13, 0);
            if (b == ']') good("stay 1 if [1=1" + sign);
            else bad("stay 1 if [1=1" + sign, digit || operator || b == ' ' ? 15 : 14, 0);
        }
        Due.terms("4 one CLAUSE too many");
        String twelve = "stay 1" + Due.repeat(";stay 1", 11);
        bad(twelve + ";  stay 1", 86, 4);
        bad(twelve + ";stay", 84, 4);
        Due.terms("Of one place the least.");
        bad(twelve + ";stays 1", 84, 0);
        bad(twelve + ";", 84, 0);
        bad(twelve + ";isle 0 0", 84, 0);
        String sixty = "stay 1" + Due.repeat("+0", 59);
        bad(sixty + "+100000", 125, 1);
        bad(sixty + "+some", 125, 0);
        bad(sixty + "+[", 125, 0);
        bad(sixty + "+", 125, 0);
        bad("stay 1" + Due.repeat("+0", 58) + " if 7 some", 128, 0);
        bad("stay 1 if " + Due.repeat("[", 10) + "nots", 20, 0);
        Due.terms("FAULTS, the first along the text");
        bad("stay 100000 some", 5, 1);
        bad("stay some 100000", 5, 0);
        bad(twelve + ";stay 100000", 84, 4);
        bad("stay 1 if " + Due.repeat("[", 11) + "some", 20, 2);
        bad(sixty + "+1;some", 125, 3);
    }

    public static void main(String[] args) {
        twelveClauses();
        testsAndParts();
        facts();
        sums();
        numbers();
        words();
        whoOneIs();
        howOneLikes();
        howLong();
        best();
        yearAndHands();
        division();
        blanks();
        depth();
        sixty();
        behindFaults();
        faults();
        Due.finish();
    }
}
