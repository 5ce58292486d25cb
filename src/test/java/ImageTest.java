/** Promises 28 to 30. */
public final class ImageTest {
    private static void counts(HandFast h, String when, int... due) {
        for (int what = 0; what < due.length; what++) {
            Due.is("count(" + what + ") " + when, due[what], h.count(what));
        }
    }

    private static void thereAndBack() {
        HandFast h = Due.of("isle 10 5;east 50;east 30;west 0;west 7;west 7;seems 0 2 9 8;seems 1 1 6 4;truly 0 2 2 8;late 1;late 4");
        Due.rule(h, "stay 1");
        Due.is("image(0)", 0, h.image(0));
        h.fair();
        h.force(0);
        h.seed(12);
        h.note(0, 0, 2);
        h.note(1, 0, 2);
        h.hold();
        Due.tape(h, "stay 2");
        int[] first = {10, 5, 2, 3, 1, 0, 1, 3, 6, 1, 2, 2, 1, 12, 6};
        counts(h, "as made", first);
        Due.is("image(3)", 1, h.image(3));
        Due.is("an IMAGE changes nothing", 1, h.count(12));
        h.fair();
        h.part(0);
        h.note(-1, 0, 0);
        h.seed(99);
        h.force(-1);
        Due.is("another RULE", 1, h.rule());
        Due.is("another ISLE", 0, Due.isle(h, "isle 1 2"));
        Due.tape(h, "some");
        Due.is("back(3)", 1, h.back(3));
        int[] second = {10, 5, 2, 3, 2, 0, 1, 3, 6, 1, 2, 2, 0, 12, 4};
        counts(h, "gone back to", second);
        Due.is("PURSE", 40, h.east(0, 0));
        Due.is("YEARS", 1, h.west(2, 2));
        Due.is("JOININGS", 1, h.west(2, 3));
        Due.is("LIKES", 8, h.likes(0, 2, 0));
        Due.is("truly", 2, h.likes(0, 2, 2));
        Due.is("NOTES are so by each", 3, h.ruled(0));
        Due.is("undo", -1, h.undo());
        Due.is("fair", 0, h.fair());
        Due.is("undo", 0, h.undo());
        Due.is("back(0)", 0, h.back(0));
        Due.is("YEAR", 0, h.count(6));
        Due.is("RULE IN FORCE", -1, h.count(5));
        Due.is("x", 0, h.count(13));
        Due.is("NOTES", 0, h.count(11));
        Due.is("back(3) again", 1, h.back(3));
        Due.is("x", 12, h.count(13));
        h.fair();
        Due.is("image(3) anew", 2, h.image(3));
        h.fair();
        Due.is("back(3)", 2, h.back(3));
        Due.is("begin is as the text told it: late", 2, h.count(10));
        Due.is("YEAR 0 was not late", 128, h.boats(-1, 0));
    }

    private static void edges() {
        HandFast h = new HandFast();
        Due.is("image(4)", -1, h.image(4));
        Due.is("image(-1)", -1, h.image(-1));
        Due.is("back(4)", -1, h.back(4));
        Due.is("back(-1)", -1, h.back(-1));
        Due.is("image(2) without an ISLE", 0, h.image(2));
        Due.is("back(1), never made", -1, h.back(1));
        Due.isle(h, "isle 5 5;east 5");
        h.fair();
        h.fair();
        Due.is("back(1), never made", -1, h.back(1));
        Due.is("nothing happens", 2, h.count(12));
        Due.is("image(1)", 2, h.image(1));
        Due.is("back(2): without an ISLE", 0, h.back(2));
        Due.is("EASTS", 0, h.count(2));
        Due.is("GIFT", 0, h.count(0));
        Due.is("fair", -1, h.fair());
        Due.is("back(1)", 2, h.back(1));
        Due.is("EASTS", 1, h.count(2));
        Due.is("fair", 0, h.fair());
    }

    public static void main(String[] args) {
        thereAndBack();
        edges();
        Due.finish();
    }
}
