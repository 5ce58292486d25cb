/** The text of an ISLE: a test for each sentence of the document that names a boundary. */
public final class EdgeIsleTest {
    private static final String FOUR = "isle 0 0" + Due.repeat(";east 1", 4) + Due.repeat(";west 1", 4);

    private static void good(String text, int easts) {
        IsleTextTest.good(text, easts);
    }

    private static void bad(String text, int place, int kind) {
        IsleTextTest.bad(text, place, kind);
    }

    private static void length() {
        Due.terms("An ISLE is a text of at most 400 bytes");
        HandFast spread = Due.of("isle 7 3" + Due.repeat(" ", 384) + ";late 60");
        Due.is("late, told by the last bytes of 400", 1, spread.count(10));
        String busy = "isle 99 20" + Due.repeat(";east 999", 4) + Due.repeat(";west 999", 4) + Due.repeat(";seems 3 3 20 20", 19)
            + ";late 7;late 8";
        Due.is("bytes", 400, busy.length());
        HandFast h = new HandFast();
        Due.tape(h, busy);
        Due.is("one more can't come", -1, h.feed(0x39393939, 0, 0, 0, 0));
        Due.is("the 400 are the ISLE", 4, h.isle());
        Due.is("LIKES", 20, h.likes(3, 3, 1));
        Due.is("late", 2, h.count(10));
        bad(busy.substring(0, 399) + ";", 399, 0);
        bad(Due.repeat(" ", 400), 400, 0);
    }

    private static void fortyClauses() {
        Due.terms("CLAUSE { ; CLAUSE }, 40 at most");
        String forty = "isle 0 0" + Due.repeat(";late 1", 39);
        good("isle 0 0", 0);
        good(forty, 0);
        bad(forty + ";late 1", 282, 4);
        String mixed = FOUR + Due.repeat(";late 9", 31);
        good(mixed, 4);
        bad(mixed + " ; late 9", mixed.length() + 3, 4);
        bad("", 0, 0);
        bad(";isle 0 0", 0, 0);
        bad("isle 0 0;", 9, 0);
        bad("isle 0 0;;late 1", 9, 0);
    }

    private static void isleClause() {
        Due.terms("isle NUMBER NUMBER (GIFT 0 to 99; STAY 0 to 20; once, the first CLAUSE)");
        HandFast least = Due.of("isle 0 0");
        Due.is("GIFT", 0, least.count(0));
        Due.is("STAY", 0, least.count(1));
        HandFast most = Due.of("isle 99 20");
        Due.is("GIFT", 99, most.count(0));
        Due.is("STAY", 20, most.count(1));
        bad("isle 100 20", 5, 1);
        bad("isle 99 21", 8, 1);
        bad("isle 99", 7, 0);
        bad("isle 99 20 0", 11, 0);
        bad("isle 99 20;isle 99 20", 11, 4);
        bad("late 1;isle 99 20", 0, 4);
    }

    private static void eastClause() {
        Due.terms("east NUMBER (one more of the east, PURSE 0 to 999)");
        HandFast h = Due.of("isle 0 0;east 0;east 999");
        Due.is("EASTS", 2, h.count(2));
        Due.is("the least PURSE", 0, h.east(0, 0));
        Due.is("the most", 999, h.east(1, 0));
        bad("isle 0 0;east 1000", 14, 1);
        bad("isle 0 0;east", 13, 0);
        bad("isle 0 0;east 1 1", 16, 0);
    }

    private static void westClause() {
        Due.terms("west NUMBER (one more of the west, likewise)");
        HandFast h = Due.of("isle 0 0;west 0;west 999");
        Due.is("WESTS", 2, h.count(3));
        Due.is("the least PURSE", 0, h.west(0, 0));
        Due.is("the most", 999, h.west(1, 0));
        bad("isle 0 0;west 1000", 14, 1);
        bad("isle 0 0;west", 13, 0);
        bad("isle 0 0;west 1 1", 16, 0);
    }

    /** The clauses seems and truly, whose numbers are bound alike. */
    private static void liking(String word) {
        String told = "isle 0 0;east 0;east 0;west 0;west 0;west 0;" + word;
        int at = told.length();
        good(told + " 0 0 0 0", 2);
        good(told + " 1 2 20 20", 2);
        bad(told + " 2 0 0 0", at + 1, 1);
        bad(told + " 0 3 0 0", at + 3, 1);
        bad(told + " 0 0 21 0", at + 5, 1);
        bad(told + " 0 0 0 21", at + 7, 1);
        bad(told + " 0 0 0", at + 6, 0);
        bad(told + " 0 0 0 0 0", at + 9, 0);
        bad("isle 0 0;" + word + " 0 0 0 0;east 0;west 0", 15, 1);
        bad("isle 0 0;east 0;" + word + " 0 0 0 0;west 0", 24, 1);
        bad("isle 0 0;west 0;" + word + " 0 0 0 0;east 0", 22, 1);
        bad("isle 0 0;east 0;west 0;" + word + " 1 0 0 0;east 0", 29, 1);
    }

    private static void seemsClause() {
        Due.terms("seems NUMBER NUMBER NUMBER NUMBER (one of the east, one of the west that were told; how much the first LIKES the "
            + "second, 0 to 20, and the second the first;");
        liking("seems");
        HandFast h = Due.of("isle 0 0;east 0;west 0;west 0;seems 0 1 20 0;seems 0 0 1 20");
        Due.is("the EAST the WEST", 20, h.likes(0, 1, 0));
        Due.is("the WEST the EAST", 0, h.likes(0, 1, 1));
        Due.is("the EAST the other WEST", 1, h.likes(0, 0, 0));
        Due.is("that WEST the EAST", 20, h.likes(0, 0, 1));
        Due.terms("of the same two the last told, 0 and 0 without");
        HandFast twice = Due.of("isle 0 0;east 0;west 0;west 0;seems 0 0 20 20;seems 0 0 0 1");
        Due.is("the last told, 0 though it is", 0, twice.likes(0, 0, 0));
        Due.is("the last told", 1, twice.likes(0, 0, 1));
        Due.is("without", 0, twice.likes(0, 1, 0));
        Due.is("without", 0, twice.likes(0, 1, 1));
        Due.isle(twice, "isle 0 0;east 0;west 0");
        Due.is("without, whatever an ISLE ahead of it told", 0, twice.likes(0, 0, 1));
        Due.holds("a FAULT behind a CLAUSE", Due.isle(twice, "isle 0 0;east 0;west 0;late 0;seems 0 0 5 6;truly 0 0 7 8;") < -2);
        Due.isle(twice, "isle 0 0;east 0;west 0");
        for (int what = 0; what < 4; what++) Due.is("without, whatever a FAULT stood behind", 0, twice.likes(0, 0, what));
        Due.is("nor is a boat late by it", 0, twice.count(10));
    }

    private static void trulyClause() {
        Due.terms("truly NUMBER NUMBER NUMBER NUMBER (likewise: how much they would, once all is known; without: as it seems)");
        liking("truly");
        HandFast h = Due.of("isle 0 0;east 0;west 0;west 0;truly 0 0 20 20;truly 0 0 0 19;seems 0 0 7 7;seems 0 1 3 4");
        Due.is("the last told, 0 though it is", 0, h.likes(0, 0, 2));
        Due.is("the last told", 19, h.likes(0, 0, 3));
        Due.is("without, as it seems", 3, h.likes(0, 1, 2));
        Due.is("without, as it seems", 4, h.likes(0, 1, 3));
        HandFast none = Due.of("isle 0 0;east 0;west 0;seems 0 0 7 7;seems 0 0 5 6");
        Due.is("as it seems at last", 5, none.likes(0, 0, 2));
        Due.is("as it seems at last", 6, none.likes(0, 0, 3));
        HandFast neither = Due.of("isle 0 0;east 0;west 0");
        Due.is("neither", 0, neither.likes(0, 0, 2));
        Due.is("neither", 0, neither.likes(0, 0, 3));
    }

    private static void lateClause() {
        Due.terms("late NUMBER (a YEAR, 0 to 60, whose boat is late; told already: nothing new)");
        HandFast h = Due.of("isle 0 0;late 0;late 60;late 0;late 60;late 0");
        Due.is("YEARS", 2, h.count(10));
        Due.is("YEAR 0", 1, h.count(9));
        for (int year = 1; year <= 61; year++) {
            h.fair();
            Due.is("YEAR " + year, year == 60 ? 1 : 0, h.count(9));
        }
        bad("isle 0 0;late 61", 14, 1);
        bad("isle 0 0;late", 13, 0);
        HandFast all = Due.of("isle 0 0" + lateYears(1, 39));
        Due.is("39 of them", 39, all.count(10));
    }

    private static String lateYears(int from, int to) {
        StringBuilder s = new StringBuilder();
        for (int year = from; year <= to; year++) s.append(";late ").append(year);
        return s.toString();
    }

    private static void fourEach() {
        Due.terms("EASTS and WESTS 0 to 3 each, in the order told.");
        HandFast h = Due.of("isle 0 0;west 10;east 1;west 11;east 2;east 3;west 12;west 13;east 4");
        for (int i = 0; i < 4; i++) {
            Due.is("EAST " + i, i + 1, h.east(i, 0));
            Due.is("WEST " + i, i + 10, h.west(i, 0));
        }
        Due.is("EAST 4", -2, h.east(4, 0));
        Due.is("WEST 4", -2, h.west(4, 0));
        good("isle 0 0", 0);
        good("isle 0 0;west 1", 0);
        good("isle 0 0;east 1", 1);
        good(FOUR, 4);
    }

    private static void begin() {
        Due.terms("It is YEAR 0; all are free.");
        HandFast h = new HandFast();
        Twin.rich(h);
        Due.isle(h, FOUR + ";late 0");
        Due.is("YEAR", 0, h.count(6));
        Due.is("EASTS JOINED", 0, h.count(7));
        Due.is("WESTS JOINED", 0, h.count(8));
        for (int i = 0; i < 4; i++) {
            for (int what = 1; what < 4; what++) {
                Due.is("EAST " + i, what == 1 ? -1 : 0, h.east(i, what));
                Due.is("WEST " + i, what == 1 ? -1 : 0, h.west(i, what));
            }
        }
    }

    private static void firstFault() {
        Due.terms("FAULTS, the first along the text, 1 + 8 * its place and");
        Due.is("place 0", -3, Due.isle(new HandFast(), "x"));
        Due.is("place 1", -11, Due.isle(new HandFast(), " x"));
        Due.is("place 400", -3203, Due.isle(new HandFast(), Due.repeat(" ", 400)));
        bad("isle 100 21", 5, 1);
        bad("isle 100 0;some", 5, 1);
        bad("isle 0 0;some;isle 0 0", 9, 0);
        bad("isle 0 0;isle 100 0", 9, 4);
        bad("isle 0 0;east 1000;isle 0 0;some", 14, 1);
        bad(FOUR + ";east 1000", FOUR.length() + 1, 4);
    }

    private static void misplaced() {
        Due.terms("0 a byte or WORD that can't stand there, or the end (behind the last byte)");
        for (int b = 0; b < 256; b++) {
            String sign = String.valueOf((char) b);
            boolean digit = b >= '0' && b <= '9';
            if (digit || b == ' ') {
                good("isle 0 0" + sign, 0);
            } else {
                bad("isle 0 0" + sign, b == ';' ? 9 : 8, 0);
            }
            bad(sign, b == ' ' ? 1 : 0, 0);
            bad("isle" + sign, digit || b == ' ' ? 5 : b >= 'a' && b <= 'z' ? 0 : 4, 0);
        }
        String[] words = {"stay", "isl", "isles", "eas", "easts", "we", "wests", "seem", "true", "lat", "later", "a", "z", "likes"};
        for (String word : words) bad("isle 0 0; " + word + " 1", 10, 0);
        String text = "isle 1 2;east 3;west 4;seems 0 0 5 6;truly 0 0 7 8;late 9";
        for (int end = 0; end < text.length(); end++) {
            boolean whole = end > 0 && Character.isDigit(text.charAt(end - 1)) && text.charAt(end) == ';';
            if (!whole) {
                Due.holds("cut at " + end, Due.isle(new HandFast(), text.substring(0, end)) < -2);
            }
        }
    }

    private static void numbers() {
        Due.terms("1 a NUMBER of more digits, or not as told");
        good("isle 00000 00020;east 00999;late 00060", 1);
        bad("isle 000000 0", 5, 1);
        bad("isle 0 000000", 7, 1);
        bad("isle 0 0;east 000001", 14, 1);
        bad("isle 0 0;late 000001", 14, 1);
        bad("isle 4294967296 0", 5, 1);
        bad("isle 18446744073709551616 0", 5, 1);
        bad("isle " + Due.repeat("0", 395), 5, 1);
        bad("isle 99999 0", 5, 1);
    }

    private static void tooMany() {
        Due.terms("4 one CLAUSE too many, a second isle, another CLAUSE ahead of it, a fifth EAST, a fifth WEST (at its first byte)");
        String forty = "isle 0 0" + Due.repeat(";late 1", 39);
        for (String clause : new String[] {"isle 0 0", "east 0", "west 0", "seems 0 0 0 0", "truly 0 0 0 0", "late 0"}) {
            bad(forty + ";  " + clause, forty.length() + 3, 4);
            bad(forty + ";" + clause.substring(0, clause.indexOf(' ')), forty.length() + 1, 4);
            if (!clause.startsWith("isle")) {
                bad("  " + clause + ";isle 0 0", 2, 4);
            }
        }
        bad("isle 0 0;late 1; isle 0 0", 17, 4);
        bad(FOUR + "; east 1", FOUR.length() + 2, 4);
        bad(FOUR + "; west 1", FOUR.length() + 2, 4);
    }

    private static void leastOfOnePlace() {
        Due.terms("Of one place the least.");
        String forty = "isle 0 0" + Due.repeat(";late 1", 39);
        bad(forty + ";lates 1", forty.length() + 1, 0);
        bad(forty + ";", forty.length() + 1, 0);
        bad(forty + ";;", forty.length() + 1, 0);
        bad("easts 1", 0, 0);
        bad("stay 1", 0, 0);
    }

    public static void main(String[] args) {
        length();
        fortyClauses();
        isleClause();
        eastClause();
        westClause();
        seemsClause();
        trulyClause();
        lateClause();
        fourEach();
        begin();
        firstFault();
        misplaced();
        numbers();
        tooMany();
        leastOfOnePlace();
        Due.finish();
    }
}
