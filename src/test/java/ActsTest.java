/** Promises 11 to 14. */
public final class ActsTest {
    private static void joinAndPart() {
        HandFast h = Due.of("isle 11 0;east 50;east 3;west 0;west 2;seems 0 0 9 8;seems 0 1 0 4;seems 1 0 7 0;seems 1 1 1 1;late 0");
        Due.is("join(0, 1): no liking", -1, h.join(0, 1));
        Due.is("join(1, 0): not liked", -1, h.join(1, 0));
        Due.is("join(2, 0)", -1, h.join(2, 0));
        Due.is("join(-1, 0)", -1, h.join(-1, 0));
        Due.is("join(0, 2)", -1, h.join(0, 2));
        Due.is("join(0, -1)", -1, h.join(0, -1));
        Due.is("no ACT", 0, h.count(12));
        Due.is("join(0, 0), though the boat is late", 11, h.join(0, 0));
        Due.is("join(0, 0) again", -1, h.join(0, 0));
        Due.is("join(1, 1): all they have", 3, h.join(1, 1));
        Due.is("PURSE", 39, h.east(0, 0));
        Due.is("PURSE", 11, h.west(0, 0));
        Due.is("PURSE", 0, h.east(1, 0));
        Due.is("PURSE", 5, h.west(1, 0));
        Due.is("YEARS", 0, h.east(0, 2));
        Due.is("JOININGS", 1, h.east(0, 3));
        Due.is("part(0): half, downwards", 5, h.part(0));
        Due.is("PURSE", 44, h.east(0, 0));
        Due.is("PURSE", 6, h.west(0, 0));
        Due.is("part(0) again", -1, h.part(0));
        Due.is("part(2)", -1, h.part(2));
        Due.is("part(-1)", -1, h.part(-1));
        Due.is("part(1)", 5, h.part(1));
        Due.is("west has nothing left", 0, h.west(1, 0));
        Due.is("joined again by hand", 5, h.join(1, 1));
        Due.is("JOININGS", 2, h.west(1, 3));
        Due.is("ACTS", 5, h.count(12));
        h.part(1);
        h.hold();
        Due.is("nothing of it by a late boat", 0, h.fair());
        Due.is("parted by hand, joined at the fair", 2, h.fair());
    }

    private static void allTheWestHas() {
        HandFast h = Due.of("isle 99 0;east 3;west 0;seems 0 0 9 8");
        Due.is("join", 3, h.join(0, 0));
        Due.is("part: all the WEST has", 3, h.part(0));
        Due.is("PURSE", 3, h.east(0, 0));
        Due.is("PURSE", 0, h.west(0, 0));
    }

    private static void holding() {
        HandFast h = Due.of("isle 1 0;east 3;west 0;seems 0 0 9 8;late 1;late 60");
        Due.is("hold", 3, h.hold());
        Due.is("hold again", -1, h.hold());
        Due.is("late now", 1, h.count(9));
        Due.is("fair", 0, h.fair());
        Due.is("free", -1, h.east(0, 1));
        Due.is("hold, told already", -1, h.hold());
        Due.is("fair", 0, h.fair());
        Due.is("fair", 1, h.fair());
        for (int year = 3; year < 59; year++) {
            h.fair();
        }
        Due.is("YEAR", 59, h.count(6));
        Due.is("hold in YEAR 59", 4, h.hold());
        h.fair();
        Due.is("hold in YEAR 60, told", -1, h.hold());
        h.fair();
        Due.is("hold in YEAR 61", -1, h.hold());
        Due.is("not late", 0, h.count(9));
        HandFast sixty = Due.of("isle 1 0");
        for (int year = 0; year < 60; year++) {
            sixty.fair();
        }
        Due.is("hold in YEAR 60", 1, sixty.hold());
        Due.is("late now", 1, sixty.count(9));
    }

    private static void undoing() {
        HandFast h = Due.of("isle 10 5;east 50;east 30;west 0;west 7;seems 0 0 9 8;seems 1 1 6 4;truly 0 0 2 8");
        Due.is("undo nothing", -1, h.undo());
        h.join(0, 0);
        h.hold();
        h.fair();
        h.part(0);
        h.fair();
        Due.is("ACTS", 5, h.count(12));
        Due.rule(h, "stay 1");
        h.force(0);
        h.seed(9);
        h.note(3, 0, 0);
        Due.is("undo the fair", 4, h.undo());
        Due.is("YEAR", 1, h.count(6));
        Due.is("JOINED", 0, h.count(7));
        Due.is("JOININGS", 0, h.east(1, 3));
        Due.is("LIKES", 8, h.likes(0, 0, 0));
        Due.is("undo the parting", 3, h.undo());
        Due.is("JOINED", 1, h.count(7));
        Due.is("YEARS", 1, h.east(0, 2));
        Due.is("PURSE", 40, h.east(0, 0));
        Due.is("undo the fair", 2, h.undo());
        Due.is("LIKES", 9, h.likes(0, 0, 0));
        Due.is("YEARS", 0, h.east(0, 2));
        Due.is("late", 1, h.count(9));
        Due.is("undo the hold", 1, h.undo());
        Due.is("late", 0, h.count(9));
        Due.is("late", 0, h.count(10));
        Due.is("undo the joining", 0, h.undo());
        Due.is("PURSE", 50, h.east(0, 0));
        Due.is("PURSE", 0, h.west(0, 0));
        Due.is("JOININGS", 0, h.west(0, 3));
        Due.is("undo", -1, h.undo());
        Due.is("what is no ACT stays: force", 0, h.count(5));
        Due.is("what is no ACT stays: x", 9, h.count(13));
        Due.is("what is no ACT stays: NOTES", 1, h.count(11));
    }

    private static void twenty() {
        HandFast h = Due.of("isle 10 5");
        for (int i = 0; i < 25; i++) {
            h.fair();
            Due.is("ACTS", Math.min(20, i + 1), h.count(12));
        }
        h.hold();
        h.hold();
        Due.is("ACTS", 20, h.count(12));
        for (int i = 19; i >= 0; i--) {
            Due.is("undo", i, h.undo());
        }
        Due.is("YEAR", 6, h.count(6));
        Due.is("undo", -1, h.undo());
        Due.is("YEAR", 6, h.count(6));
        h.fair();
        Due.is("undo", 0, h.undo());
        Due.is("YEAR", 6, h.count(6));
    }

    public static void main(String[] args) {
        joinAndPart();
        allTheWestHas();
        holding();
        undoing();
        twenty();
        Due.finish();
    }
}
