/** Promises 15 to 21. */
public final class AskTest {
    private static void ahead() {
        HandFast h = Due.of(FairTest.TWO);
        int[][] due = {
            {-1, 0, 50, -1, 0, 3, 0, 7}, {1, 6, 40, 0, 7, 0, 3, 17}, {-1, 0, 45, 0, 7, 0, 3, 12},
            {-1, 0, 45, 0, 7, 0, 3, 12}, {1, 6, 35, 0, 7, 0, 3, 22}, {-1, 0, 40, 0, 7, 0, 3, 17}};
        for (int n = 0; n < due.length; n++) {
            for (int i = 0; i < 6; i++) {
                Due.is("ahead(" + i / 3 + ", " + n + ", " + i % 3 + ")", due[n][i], h.ahead(i / 3, n, i % 3));
            }
            Due.is("ahead(0, " + n + ", 3)", due[n][6], h.ahead(0, n, 3));
            Due.is("ahead(1, " + n + ", 3)", due[n][7], h.ahead(1, n, 3));
        }
        Due.is("nothing changes", 0, h.count(6) + h.count(7) + h.count(12));
        Due.is("ahead 60", 0, h.ahead(1, 60, 0));
        Due.is("ahead 61", -2, h.ahead(1, 61, 0));
        Due.is("ahead -1", -2, h.ahead(1, -1, 0));
        Due.is("ahead what 4", -2, h.ahead(1, 1, 4));
        Due.is("ahead what -1", -2, h.ahead(1, 1, -1));
        Due.is("ahead of EAST 2", -2, h.ahead(2, 1, 0));
        Due.is("ahead of WEST 2", -2, h.ahead(2, 1, 3));
        Due.is("ahead of EAST -1", -2, h.ahead(-1, 1, 2));
        HandFast one = Due.of("isle 0 0;west 4");
        Due.is("a WEST without EASTS", 4, one.ahead(0, 3, 3));
        Due.is("no EAST", -2, one.ahead(0, 3, 2));
        h.hold();
        Due.is("a boat that is held", -1, h.ahead(0, 1, 0));
        h.undo();
        Due.rule(h, "stay 0");
        h.force(0);
        Due.is("by the RULE IN FORCE", 0, h.ahead(0, 2, 0));
    }

    private static void lasts() {
        HandFast h = Due.of(FairTest.TWO);
        Due.is("free", -1, h.lasts(0));
        h.fair();
        Due.is("EAST 0 parts in YEAR 1", 1, h.lasts(0));
        Due.is("EAST 1 never", -2, h.lasts(1));
        Due.is("EAST 2", -1, h.lasts(2));
        Due.is("EAST -1", -1, h.lasts(-1));
        Due.rule(h, "stay 61 - year");
        Due.rule(h, "stay 60 - year");
        Due.rule(h, "stay 0");
        h.force(0);
        Due.is("the FAIR of YEAR 61 is the 61st", -2, h.lasts(1));
        h.force(1);
        Due.is("the FAIR of YEAR 60 is the 60th", 60, h.lasts(1));
        h.force(2);
        Due.is("at once", 1, h.lasts(1));
        h.hold();
        Due.is("the next two are late", 3, h.lasts(1));
    }

    private static void settled() {
        HandFast h = Due.of("isle 0 0;east 0;east 0;west 0;west 0;seems 0 0 2 1;seems 0 1 1 2;seems 1 0 1 3;seems 1 1 2 1");
        int[] due = {2, 0, 1, -2, -2, 7};
        for (int what = 0; what < 6; what++) {
            Due.is("settled(" + what + ")", due[what], h.settled(what));
        }
        Due.is("settled(6)", -3, h.settled(6));
        Due.is("settled(-1)", -3, h.settled(-1));
        h.join(0, 0);
        int[] joined = {1, -2, 1, -2, -2, 3};
        for (int what = 0; what < 6; what++) {
            Due.is("one joined: settled(" + what + ")", joined[what], h.settled(what));
        }
        HandFast tie = Due.of("isle 0 0;east 0;east 0;west 0;seems 0 0 5 3;seems 1 0 6 3");
        int[] tied = {2, -1, 0, -2, -2, 9};
        for (int what = 0; what < 6; what++) {
            Due.is("a tie: settled(" + what + ")", tied[what], tie.settled(what));
        }
        HandFast cold = Due.of("isle 0 0;east 0;west 0;seems 0 0 5 0");
        Due.is("nobody at all is one way", 1, cold.settled(0));
        Due.is("nobody", -1, cold.settled(1));
        Due.is("liked by 0", 0, cold.settled(5));
        HandFast empty = Due.of("isle 0 0");
        Due.is("nobody there is one way", 1, empty.settled(0));
        Due.is("no EAST", -2, empty.settled(1));
        Due.is("liked by 0", 0, empty.settled(5));
        // all alike: every full row, 4! of them
        StringBuilder all = new StringBuilder("isle 0 0" + Due.repeat(";east 0", 4) + Due.repeat(";west 0", 4));
        for (int i = 0; i < 16; i++) {
            all.append(";seems ").append(i / 4).append(' ').append(i % 4).append(" 1 1");
        }
        HandFast full = Due.of(all.toString());
        int[] every = {24, 0, 1, 2, 3, 8};
        for (int what = 0; what < 6; what++) {
            Due.is("all alike: settled(" + what + ")", every[what], full.settled(what));
        }
    }

    private static void tries() {
        HandFast h = Due.of("isle 0 5;east 0;west 0;west 0;west 0;seems 0 0 9 9;truly 0 0 1 9;seems 0 1 7 7;seems 0 2 20 0");
        int[][] due = {{1, -1, 8}, {2, -1, 15}, {3, -1, 21}, {4, 1, 28}, {8, 1, 56}, {30, 1, 210}};
        for (int[] row : due) {
            Due.is("tries(0, " + row[0] + ", 0)", row[1], h.tries(0, row[0], 0));
            Due.is("tries(0, " + row[0] + ", 1)", row[2], h.tries(0, row[0], 1));
        }
        Due.is("nothing changes", 0, h.count(7) + h.count(6));
        Due.is("tries 0", -2, h.tries(0, 0, 0));
        Due.is("tries 31", -2, h.tries(0, 31, 0));
        Due.is("tries what 2", -2, h.tries(0, 1, 2));
        Due.is("tries what -1", -2, h.tries(0, 1, -1));
        Due.is("tries EAST 1", -2, h.tries(1, 1, 0));
        Due.is("tries EAST -1", -2, h.tries(-1, 1, 0));
        h.hold();
        Due.is("late: whom to be joined to by hand", 0, h.tries(0, 1, 0));
        Due.is("late: how much", 8, h.tries(0, 1, 1));
        h.join(0, 1);
        Due.is("one who is joined", -2, h.tries(0, 1, 0));
        HandFast none = Due.of("isle 0 5;east 0");
        Due.is("nobody there", -1, none.tries(0, 30, 0));
        Due.is("nothing", 0, none.tries(0, 30, 1));
    }

    private static void liked() {
        HandFast h = Due.of("isle 0 5;east 0;east 0;east 0;west 0;west 0;seems 0 0 20 20;truly 0 0 20 1;seems 1 0 1 3;truly 1 1 1 4;"
            + "seems 2 1 0 7;late 0");
        Due.is("who", 1, h.liked(0));
        Due.is("how much", 7, h.liked(1));
        Due.is("liked(2)", -1, h.liked(2));
        Due.is("liked(-1)", -1, h.liked(-1));
        HandFast none = Due.of("isle 0 5;west 0");
        Due.is("no EASTS", -2, none.liked(0));
        Due.is("no EASTS", -2, none.liked(1));
        HandFast alone = Due.of("isle 0 5;east 0;east 0");
        Due.is("no WESTS", 0, alone.liked(0));
        Due.is("no WESTS", 0, alone.liked(1));
    }

    private static void doorsOf(String isle, int fairs, int many, int first) {
        HandFast h = Due.of(isle);
        h.join(0, 0);
        for (int i = 0; i < fairs; i++) {
            h.hold();
            h.fair();
        }
        Due.is("doors(0, 0) of " + isle, many, h.doors(0, 0));
        Due.is("doors(0, 1) of " + isle, first, h.doors(0, 1));
    }

    private static void doors() {
        // who stays alone has 15 - 10 = 5, both gone 3
        doorsOf("isle 30 6;east 50;west 0;seems 0 0 9 5", 0, 1, 1);
        doorsOf("isle 30 6;east 50;west 0;seems 0 0 5 9", 0, 1, 2);
        doorsOf("isle 30 6;east 50;west 0;seems 0 0 9 9", 0, 1, 0);
        doorsOf("isle 30 6;east 50;west 0;seems 0 0 6 6", 0, 3, 0);
        doorsOf("isle 30 6;east 50;west 0;seems 0 0 6 6", 1, 2, 1);
        // who stays alone has 0 - 10
        doorsOf("isle 1 6;east 50;west 0;seems 0 0 9 5", 0, 1, 3);
        doorsOf("isle 1 6;east 50;west 0;seems 0 0 9 9", 3, 2, 0);
        doorsOf("isle 1 6;east 50;west 0;seems 0 0 9 9", 4, 1, 3);
        // who stays alone has 13 - 10 = 3, as both gone: 7 / 2
        doorsOf("isle 27 7;east 50;west 0;seems 0 0 7 7", 0, 4, 0);
        doorsOf("isle 27 7;east 50;west 0;seems 0 0 6 6", 0, 3, 1);
        HandFast h = Due.of("isle 30 6;east 50;west 0;seems 0 0 9 5");
        Due.is("free", -1, h.doors(0, 0));
        HandFast cross = Due.of("isle 30 6;east 50;east 50;west 0;west 0;west 0;seems 1 2 9 5;seems 0 0 1 1;seems 1 0 2 2");
        cross.join(1, 2);
        Due.is("of EAST 1 and WEST 2", 1, cross.doors(1, 0));
        Due.is("of EAST 1 and WEST 2", 1, cross.doors(1, 1));
        Due.is("EAST 0 is free", -1, cross.doors(0, 0));
        Due.is("EAST 1 parts at once", 0, cross.lasts(1));
        Due.is("by no GIFT", -2, cross.keep(1, 1));
        Due.is("EAST 0 is left with WEST 0", 0, cross.settled(1));
        Due.is("EAST 1 is joined", -2, cross.settled(2));
        Due.rule(cross, "stay 1 if year < 7 and person + other = 3");
        cross.force(0);
        Due.is("EAST 1 lasts to YEAR 7", 7, cross.lasts(1));
        Due.is("by any GIFT", 0, cross.keep(1, 7));
        Due.is("isles: EAST 0 comes and goes", 20, cross.isles(10, 3, 0, 0));
        Due.is("isles: how often", 20, cross.isles(10, 3, 0, 1));
        h.join(0, 0);
        Due.is("doors(0, 2)", -1, h.doors(0, 2));
        Due.is("doors(0, -1)", -1, h.doors(0, -1));
        Due.is("doors(1, 0)", -1, h.doors(1, 0));
        Due.is("doors(-1, 0)", -1, h.doors(-1, 0));
    }

    private static void keep() {
        HandFast h = Due.of("isle 30 6;east 50;west 0;seems 0 0 9 7;truly 0 0 9 5");
        Due.is("free", -1, h.keep(0, 1));
        h.join(0, 0);
        Due.is("by liking, 1", 0, h.keep(0, 1));
        Due.is("by liking, 2", 0, h.keep(0, 2));
        Due.is("by liking, 3", -2, h.keep(0, 3));
        Due.rule(h, "stay gift - 20");
        Due.rule(h, "stay 1 if gift >= 31 and year < 2");
        Due.rule(h, "stay gift - 98");
        Due.rule(h, "stay gift - 99");
        h.force(0);
        Due.is("gift - 20", 21, h.keep(0, 30));
        Due.is("GIFT stays", 30, h.count(0));
        h.force(1);
        Due.is("until YEAR 2", 31, h.keep(0, 2));
        Due.is("behind YEAR 2", -2, h.keep(0, 3));
        h.force(2);
        Due.is("gift - 98", 99, h.keep(0, 1));
        h.force(3);
        Due.is("gift - 99", -2, h.keep(0, 1));
        Due.is("keep 0", -1, h.keep(0, 0));
        Due.is("keep 31", -1, h.keep(0, 31));
        Due.is("keep EAST 1", -1, h.keep(1, 1));
        Due.is("keep EAST -1", -1, h.keep(-1, 1));
    }

    public static void main(String[] args) {
        ahead();
        lasts();
        settled();
        tries();
        liked();
        doors();
        keep();
        Due.finish();
    }
}
