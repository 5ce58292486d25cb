/** Promise 4: the text of an isle and its faults. */
public final class IsleTextTest {
    static void good(String text, int easts) {
        HandFast h = new HandFast();
        Due.is("isle: " + text, easts, Due.isle(h, text));
        Due.is("the tape is empty behind: " + text, 0, h.count(14));
    }

    static void bad(String text, int place, int kind) {
        HandFast h = new HandFast();
        Due.is("isle: " + text, Due.fault(place, kind), Due.isle(h, text));
        Due.is("the tape is empty behind: " + text, 0, h.count(14));
        Due.is("no isle by: " + text, -1, h.fair());
    }

    private static void misplaced() {
        bad("", 0, 0);
        bad("   ", 3, 0);
        bad("isle", 4, 0);
        bad("isle ", 5, 0);
        bad("isle 1", 6, 0);
        bad("isle 1 ;", 7, 0);
        bad("isle 0 0;", 9, 0);
        bad("isle 0 0; ", 10, 0);
        bad("isle 0 0 0", 9, 0);
        bad("isle 0 0 1234567", 9, 0);
        bad("isle 0 0,east 1", 8, 0);
        bad("isles 0 0", 0, 0);
        bad("Isle 0 0", 0, 0);
        bad("isle\t0 0", 4, 0);
        bad("isle 0 0\0", 8, 0);
        bad("isle -1 0", 5, 0);
        bad("isle 0 0;;east 1", 9, 0);
        bad("isle 0 0;eastt 1", 9, 0);
        bad("isle 0 0; stay 1", 10, 0);
        bad("isle 0 0;east east", 14, 0);
        bad("isle 0 0;7", 9, 0);
        bad("stay 1", 0, 0);
    }

    private static void numbers() {
        bad("isle 100 0", 5, 1);
        bad("isle 0 21", 7, 1);
        bad("isle 000000 0", 5, 1);
        bad("isle 0 000000", 7, 1);
        bad("isle 99999999999999999999 0", 5, 1);
        bad("isle 0 0;east 1000", 14, 1);
        bad("isle 0 0;west 1000", 14, 1);
        bad("isle 0 0;late 61", 14, 1);
        bad("isle 0 0;seems 0 0 0 0", 15, 1);
        bad("isle 0 0;east 0;seems 0 0 0 0", 24, 1);
        bad("isle 0 0;west 0;seems 0 0 0 0", 22, 1);
        bad("isle 0 0;east 0;west 0;seems 1 0 0 0", 29, 1);
        bad("isle 0 0;east 0;west 0;seems 0 1 0 0", 31, 1);
        bad("isle 0 0;east 0;west 0;seems 0 0 21 0", 33, 1);
        bad("isle 0 0;east 0;west 0;seems 0 0 0 21", 35, 1);
        bad("isle 0 0;east 0;west 0;truly 0 0 21 0", 33, 1);
        bad("isle 0 0;east 0;west 0;truly 0 0 0 21", 35, 1);
        bad("isle 0 0;east 0;west 0;truly 0 1 0 0", 31, 1);
        bad("isle 0 0;east 0;west 0;truly 0 0 0", 34, 0);
        bad("isle 0 0;truly 0 x", 15, 1);
        good("isle 00099 00020;east 00999;west 999;seems 0 0 20 20;truly 0 0 20 20;late 60", 1);
    }

    private static void clauses() {
        bad("east 0", 0, 4);
        bad("  east x", 2, 4);
        bad("isle 0 0;isle 0 0", 9, 4);
        bad("isle 0 0; isle x", 10, 4);
        String four = "isle 0 0" + Due.repeat(";east 1", 4) + Due.repeat(";west 1", 4);
        good(four, 4);
        bad(four + ";east 1", four.length() + 1, 4);
        bad(four + "; west", four.length() + 2, 4);
        String forty = "isle 0 0" + Due.repeat(";late 1", 39);
        good(forty, 0);
        bad(forty + ";late 1", forty.length() + 1, 4);
        bad(forty + "; late", forty.length() + 2, 4);
        bad(forty + ";lates 1", forty.length() + 1, 0);
        bad(forty + ";", forty.length() + 1, 0);
        bad(forty + ";isle 0 0", forty.length() + 1, 4);
    }

    private static void blanks() {
        good("isle0 0", 0);
        good("  isle   0   0  ", 0);
        good("isle 0 0;east5;east 6 ;  west7", 2);
        HandFast h = Due.of("isle 3 4;east5;west 6;seems0 0 7 8;late9");
        Due.is("GIFT", 3, h.count(0));
        Due.is("PURSE", 5, h.east(0, 0));
        Due.is("LIKES", 8, h.likes(0, 0, 1));
        bad("is le 0 0", 0, 0);
        String full = "isle 0 0;east 7" + Due.repeat(" ", 385);
        good(full, 1);
        bad(full.substring(0, 399) + ";", 400, 0);
        bad(full.substring(0, 399) + "x", 399, 0);
        bad(Due.repeat(" ", 400), 400, 0);
        bad("isle 0 0;late" + Due.repeat(" ", 386) + "x", 399, 0);
        good("isle 0 0;late" + Due.repeat(" ", 386) + "9", 0);
        bad(Due.repeat(" ", 397) + "isl", 397, 0);
    }

    private static void meanings() {
        HandFast h = Due.of("isle 10 5;east 50;east 3;west 0;west 7;seems 0 0 9 8;seems 0 1 6 4;seems 0 0 1 2;"
            + "truly 0 1 3 5;truly 1 1 20 19;seems 1 0 7 6;truly 0 1 2 15;late 2;late 60;late 2");
        Due.is("GIFT", 10, h.count(0));
        Due.is("STAY", 5, h.count(1));
        Due.is("EASTS", 2, h.count(2));
        Due.is("WESTS", 2, h.count(3));
        Due.is("YEAR", 0, h.count(6));
        Due.is("late, told twice", 2, h.count(10));
        Due.is("the last seems told", 1, h.likes(0, 0, 0));
        Due.is("the last seems told", 2, h.likes(0, 0, 1));
        Due.is("truly as it seems at last", 1, h.likes(0, 0, 2));
        Due.is("truly as it seems at last", 2, h.likes(0, 0, 3));
        Due.is("the last truly told", 2, h.likes(0, 1, 2));
        Due.is("the last truly told", 15, h.likes(0, 1, 3));
        Due.is("seems 0 without", 0, h.likes(1, 1, 0));
        Due.is("truly told alone", 20, h.likes(1, 1, 2));
        Due.is("truly told alone", 19, h.likes(1, 1, 3));
        Due.is("PURSE of EAST 1", 3, h.east(1, 0));
        Due.is("PURSE of WEST 1", 7, h.west(1, 0));
        Due.is("all are free", 0, h.count(7) + h.count(8));
        HandFast zero = Due.of("isle 1 1;east 0;west 0;seems 0 0 5 5;truly 0 0 0 0");
        Due.is("truly 0 told is told", 0, zero.likes(0, 0, 2));
    }

    private static void inPlace() {
        HandFast h = Due.of("isle 10 5;east 50;east 4;west 0;seems 0 0 9 8");
        Due.rule(h, "stay 1");
        h.force(0);
        h.seed(77);
        h.fair();
        h.note(1, 0, 0);
        Due.is("a fault", Due.fault(8, 0), Due.isle(h, "isle 0 0x"));
        Due.is("all stays: YEAR", 1, h.count(6));
        Due.is("all stays: NOTES", 1, h.count(11));
        Due.is("all stays: ACTS", 1, h.count(12));
        Due.is("all stays: JOINED", 1, h.count(7));
        Due.is("all stays: GIFT", 10, h.count(0));
        Due.is("all stays: EASTS", 2, h.count(2));
        Due.is("all stays: the RULE IN FORCE", 0, h.count(5));
        Due.is("all stays: x", 77, h.count(13));
        Due.is("the TAPE alone is empty", 0, h.count(14));
        Due.is("a new isle", 1, Due.isle(h, "isle 0 0;east 1"));
        Due.is("YEAR", 0, h.count(6));
        Due.is("NOTES", 0, h.count(11));
        Due.is("ACTS", 0, h.count(12));
        Due.is("undo", -1, h.undo());
        Due.is("RULES", 1, h.count(4));
        Due.is("the RULE IN FORCE stays", 0, h.count(5));
        Due.is("x stays", 77, h.count(13));
        Due.is("WESTS", 0, h.count(3));
        Due.is("JOINED", 0, h.count(7));
        Due.is("PURSE", 1, h.east(0, 0));
    }

    public static void main(String[] args) {
        misplaced();
        numbers();
        clauses();
        blanks();
        meanings();
        inPlace();
        Due.finish();
    }
}
