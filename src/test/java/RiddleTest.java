/** Promises 22 to 25. Behind fairs 0 to 3 EAST 0 and 1 have, by none: 1,0 -,0 -,0 1,0; by 0: 1,0 on; by 1: 1,0 0,1 0,1 1,0. */
public final class RiddleTest {
    private static HandFast ruledIsle() {
        HandFast h = Due.of(FairTest.TWO);
        Due.rule(h, "stay 1");
        Due.rule(h, "stay 0");
        return h;
    }

    private static void notes() {
        HandFast h = ruledIsle();
        Due.is("note(31, 0, 0)", -2, h.note(31, 0, 0));
        Due.is("note(-2, 0, 0)", -2, h.note(-2, 0, 0));
        Due.is("note(0, 2, 0)", -2, h.note(0, 2, 0));
        Due.is("note(0, -1, 0)", -2, h.note(0, -1, 0));
        Due.is("note(0, 0, 2)", -2, h.note(0, 0, 2));
        Due.is("note(0, 0, -2)", -2, h.note(0, 0, -2));
        Due.is("NOTES", 0, h.count(11));
        for (int i = 1; i <= 10; i++) {
            Due.is("note " + i, i, h.note(i == 1 ? 30 : 0, 0, i == 1 ? 1 : -1));
        }
        Due.is("an eleventh", -2, h.note(0, 0, -1));
        Due.is("NOTES", 10, h.count(11));
        Due.is("no ACTS", 0, h.count(12));
        Due.is("none then", 0, h.note(-1, 77, 77));
        Due.is("NOTES", 0, h.count(11));
        Due.is("the first again", 1, h.note(0, 0, 0));
    }

    private static void ruledBy(int n, int east, int west, int many, int first) {
        HandFast h = ruledIsle();
        h.note(n, east, west);
        String note = " behind note(" + n + ", " + east + ", " + west + ")";
        Due.is("ruled(0)" + note, many, h.ruled(0));
        Due.is("ruled(1)" + note, first, h.ruled(1));
        h.hold();
        h.fair();
        h.force(1);
        Due.is("from the begin on: ruled(0)" + note, many, h.ruled(0));
        Due.is("from the begin on: ruled(1)" + note, first, h.ruled(1));
    }

    private static void ruled() {
        HandFast h = ruledIsle();
        Due.is("ruled(0)", 3, h.ruled(0));
        Due.is("ruled(1)", -1, h.ruled(1));
        Due.is("ruled(2)", -3, h.ruled(2));
        Due.is("ruled(-1)", -3, h.ruled(-1));
        // the begin is behind no fair
        ruledBy(0, 0, -1, 0, -2);
        ruledBy(0, 0, 0, 0, -2);
        ruledBy(0, 0, 1, 3, -1);
        ruledBy(1, 0, -1, 1, -1);
        ruledBy(1, 0, 1, 1, 0);
        ruledBy(1, 0, 0, 1, 1);
        ruledBy(1, 1, 0, 2, -1);
        ruledBy(2, 1, 1, 1, 1);
        ruledBy(3, 0, 1, 3, -1);
        ruledBy(29, 0, 1, 3, -1);
        ruledBy(30, 0, -1, 1, -1);
        ruledBy(30, 0, 1, 1, 0);
        ruledBy(30, 0, 0, 1, 1);
        h.note(1, 1, 0);
        h.note(1, 0, 0);
        Due.is("two notes that can't be", 0, h.ruled(0));
        Due.is("two notes that can't be", -2, h.ruled(1));
    }

    private static void boats() {
        HandFast h = ruledIsle();
        Due.is("all sets", 256, h.boats(0, 0));
        Due.is("the least", 0, h.boats(0, 1));
        Due.is("in all", 0, h.boats(0, 2));
        h.note(0, 0, 1);
        Due.is("not year 0", 128, h.boats(0, 0));
        Due.is("not year 0", 0, h.boats(0, 1));
        Due.is("not year 0", 0, h.boats(0, 2));
        h.note(-1, 0, 0);
        h.note(0, 0, -1);
        Due.is("year 0", 128, h.boats(0, 0));
        Due.is("year 0", 1, h.boats(0, 1));
        Due.is("year 0", 1, h.boats(0, 2));
        h.note(-1, 0, 0);
        h.note(1, 0, -1);
        Due.is("years 0 and 1", 64, h.boats(0, 0));
        Due.is("years 0 and 1", 3, h.boats(0, 1));
        Due.is("years 0 and 1", 3, h.boats(0, 2));
        h.note(2, 0, 1);
        Due.is("and not 2", 32, h.boats(0, 0));
        Due.is("and not 2", 3, h.boats(0, 1));
        Due.is("and not 2", 3, h.boats(0, 2));
        // by none: behind fair 1 EAST 0 is free when 0 and 1 are both late or neither is, and joined behind 2 when 2 isn't
        Due.is("none", 64, h.boats(-1, 0));
        Due.is("none", 0, h.boats(-1, 1));
        Due.is("none", 0, h.boats(-1, 2));
        h.note(0, 0, 0);
        Due.is("such can't be", 0, h.boats(0, 0));
        Due.is("such can't be", -2, h.boats(0, 1));
        Due.is("such can't be", 0, h.boats(0, 2));
        Due.is("boats(2, 0)", -3, h.boats(2, 0));
        Due.is("boats(-2, 0)", -3, h.boats(-2, 0));
        Due.is("boats(0, 3)", -3, h.boats(0, 3));
        Due.is("boats(0, -1)", -3, h.boats(0, -1));
    }

    private static void boatsTold() {
        HandFast h = Due.of("isle 0 0;east 0;west 0;seems 0 0 1 1;late 0;late 7;late 8;late 10");
        h.note(8, 0, -1);
        Due.is("8 is told, the rest must be", 1, h.boats(-1, 0));
        Due.is("all", 255, h.boats(-1, 1));
        Due.is("all", 255, h.boats(-1, 2));
        h.note(9, 0, -1);
        Due.is("9 is not told", 0, h.boats(-1, 0));
        h.note(-1, 0, 0);
        h.note(7, 0, 0);
        Due.is("any but all", 255, h.boats(-1, 0));
        Due.is("any but all", 0, h.boats(-1, 1));
        Due.is("any but all", 0, h.boats(-1, 2));
        h.note(6, 0, -1);
        Due.is("0 to 6 alone", 1, h.boats(-1, 0));
        Due.is("0 to 6 alone", 127, h.boats(-1, 1));
        Due.is("0 to 6 alone", 127, h.boats(-1, 2));
    }

    private static void lookBehind(HandFast h, int n, int east, int alike) {
        Due.is("look(" + n + ", 0)", east, h.look(n, 0));
        Due.is("look(" + n + ", 1)", alike, h.look(n, 1));
    }

    private static void look() {
        HandFast h = ruledIsle();
        lookBehind(h, 0, 0, 3);
        lookBehind(h, 1, 0, 1);
        lookBehind(h, 2, 0, 1);
        lookBehind(h, 3, 0, 3);
        // by none EAST 0 is joined behind odd fairs from 3 on, by 1 they have WEST 1 then
        lookBehind(h, 29, 0, 3);
        lookBehind(h, 30, 0, 1);
        h.note(1, 1, 0);
        lookBehind(h, 1, 0, 1);
        lookBehind(h, 0, 0, 2);
        h.note(2, 0, 1);
        lookBehind(h, 0, 0, 1);
        h.note(-1, 0, 0);
        h.note(0, 0, 0);
        lookBehind(h, 1, -2, -2);
        Due.is("look(31, 0)", -1, h.look(31, 0));
        Due.is("look(-1, 0)", -1, h.look(-1, 0));
        Due.is("look(0, 2)", -1, h.look(0, 2));
        Due.is("look(0, -1)", -1, h.look(0, -1));
        HandFast west = Due.of("isle 0 0;west 0");
        lookBehind(west, 3, -2, -2);
        // EAST 0 is as all, EAST 1 is as the rule tells
        HandFast second = Due.of("isle 0 0;east 0;east 0;west 0;west 0;seems 0 0 1 1;seems 1 1 1 1");
        Due.rule(second, "stay 1 - person");
        Due.rule(second, "stay 2 - person");
        lookBehind(second, 0, 0, 3);
        lookBehind(second, 1, 1, 2);
    }

    public static void main(String[] args) {
        notes();
        ruled();
        boats();
        boatsTold();
        look();
        Due.finish();
    }
}
