/** Promises 7 to 10, and 28 of what they change. */
public final class FairTest {
    static final String TWO = "isle 10 5;east 50;east 3;west 0;west 7;seems 0 0 9 8;seems 0 1 6 4;seems 1 0 7 9;seems 1 1 2 3;"
        + "truly 0 0 2 8;late 2";

    private static void people(HandFast h, int... due) {
        for (int i = 0; i < due.length; i++) {
            int who = i / 4 % 2;
            int what = i % 4;
            boolean east = i < 8;
            Due.is((east ? "east(" : "west(") + who + ", " + what + ") in YEAR " + h.count(6), due[i],
                east ? h.east(who, what) : h.west(who, what));
        }
    }

    private static void byStay() {
        HandFast h = Due.of(TWO);
        people(h, 50, -1, 0, 0, 3, -1, 0, 0, 0, -1, 0, 0, 7, -1, 0, 0);
        Due.is("fair of YEAR 0", 2, h.fair());
        people(h, 40, 1, 1, 1, 0, 0, 1, 1, 3, 1, 1, 1, 17, 0, 1, 1);
        Due.is("YEAR", 1, h.count(6));
        Due.is("EASTS JOINED", 3, h.count(7));
        Due.is("WESTS JOINED", 3, h.count(8));
        Due.is("fair of YEAR 1", 0, h.fair());
        people(h, 45, -1, 0, 1, 0, 0, 2, 1, 3, 1, 2, 1, 12, -1, 0, 1);
        Due.is("EASTS JOINED", 2, h.count(7));
        Due.is("WESTS JOINED", 1, h.count(8));
        Due.is("late", 1, h.count(9));
        Due.is("fair of YEAR 2, late", 0, h.fair());
        people(h, 45, -1, 0, 1, 0, 0, 3, 1, 3, 1, 3, 1, 12, -1, 0, 1);
        Due.is("late", 0, h.count(9));
        Due.is("fair of YEAR 3", 1, h.fair());
        people(h, 35, 1, 1, 2, 0, 0, 4, 1, 3, 1, 4, 1, 22, 0, 1, 2);
        Due.is("fair of YEAR 4", 0, h.fair());
        people(h, 40, -1, 0, 2, 0, 0, 5, 1, 3, 1, 5, 1, 17, -1, 0, 2);
    }

    private static void byRule() {
        HandFast h = Due.of(TWO);
        Due.rule(h, "stay 0");
        h.force(0);
        Due.is("fair of YEAR 0", 2, h.fair());
        Due.is("fair of YEAR 1: they change", 2, h.fair());
        // EAST 0: 40 + 5 - 10; EAST 1: 0 + 3, all WEST 0 has, - 3; WEST 0: 3 - 3 + 10; WEST 1: 17 - 5 + 3
        people(h, 35, 0, 1, 2, 0, 1, 1, 2, 10, 0, 1, 2, 15, 1, 1, 2);
        Due.is("now 9 is less by a year together", 8, h.likes(0, 0, 0));
        Due.is("truly", 2, h.likes(0, 0, 2));
        Due.is("fair of YEAR 2, late", 0, h.fair());
        Due.is("a late year goes by as well", 7, h.likes(0, 0, 0));
        Due.is("and the other likes as before", 8, h.likes(0, 0, 1));
        Due.is("fair of YEAR 3", 2, h.fair());
        Due.is("east(0, 1)", 1, h.east(0, 1));
        Due.is("as it was, apart", 7, h.likes(0, 0, 0));
    }

    private static void learning() {
        HandFast h = Due.of("isle 0 5;east 0;west 0;seems 0 0 7 3;truly 0 0 4 6");
        int[][] due = {{1, 6, 4, 0}, {0, 6, 4, -1}, {1, 5, 5, 0}, {0, 4, 6, 0}, {0, 4, 6, -1}, {1, 4, 6, 0}, {0, 4, 6, -1}};
        for (int i = 0; i < due.length; i++) {
            Due.is("fair " + i, due[i][0], h.fair());
            Due.is("likes behind " + i, due[i][1], h.likes(0, 0, 0));
            Due.is("liked behind " + i, due[i][2], h.likes(0, 0, 1));
            Due.is("joined behind " + i, due[i][3], h.east(0, 1));
        }
    }

    private static void asking() {
        HandFast tie = Due.of("isle 0 0;east 0;east 0;west 0;west 0;seems 0 0 5 5;seems 0 1 5 5;seems 1 0 5 5;seems 1 1 4 9");
        Due.is("of several the least", 2, tie.fair());
        Due.is("EAST 0 asks WEST 0 first", 0, tie.east(0, 1));
        Due.is("as much is not more", 1, tie.east(1, 1));
        HandFast cold = Due.of("isle 0 0;east 0;east 0;west 0;west 0;seems 0 0 9 0;seems 0 1 3 1;seems 1 1 0 20");
        Due.is("one is turned down, one asks nobody", 1, cold.fair());
        Due.is("WEST 0 likes nobody", -1, cold.west(0, 1));
        Due.is("EAST 0 goes on", 1, cold.east(0, 1));
        Due.is("EAST 1 likes nobody", -1, cold.east(1, 1));
        HandFast chain = Due.of("isle 0 0;east 0;east 0;east 0;west 0;west 0;west 0;seems 0 0 9 1;seems 0 1 8 1;seems 0 2 7 1;"
            + "seems 1 0 9 2;seems 1 1 3 3;seems 2 0 9 3;seems 2 1 5 9");
        Due.is("those sent off ask on", 3, chain.fair());
        Due.is("EAST 2 has WEST 0", 0, chain.east(2, 1));
        Due.is("EAST 1 has WEST 1", 1, chain.east(1, 1));
        Due.is("EAST 0 has WEST 2", 2, chain.east(0, 1));
        HandFast taken = Due.of("isle 0 0;east 0;east 0;west 0;seems 0 0 1 1;seems 1 0 9 9");
        taken.join(0, 0);
        Due.is("one who is joined isn't asked", 0, taken.fair());
        Due.is("and stays", 0, taken.east(0, 1));
    }

    /** EAST 0 and WEST 0 part; then EAST 1 sees WEST 0 free. */
    private static void pairsInTurn() {
        HandFast h = Due.of("isle 9 0;east 9;east 9;west 0;west 0;seems 0 0 5 5;seems 1 1 5 5;seems 1 0 3 0;seems 0 1 0 1");
        h.fair();
        Due.is("all joined", 3, h.count(7));
        Due.rule(h, "stay 0 if person = 0;stay 3 - best");
        h.force(0);
        Due.is("nobody is left to ask", 0, h.fair());
        Due.is("both pairs part", 0, h.count(7));
        HandFast uneven = Due.of("isle 0 0;east 0;west 0;west 0;west 0;seems 0 0 9 9;seems 0 2 4 4");
        uneven.fair();
        Due.rule(uneven, "stay 1 if side = 1;stay best - 3");
        Due.rule(uneven, "stay 1 if side = 1;stay best - 4");
        uneven.force(0);
        uneven.fair();
        Due.is("best is 4, of WEST 2", 0, uneven.east(0, 1));
        uneven.force(1);
        uneven.fair();
        Due.is("and no more", 2, uneven.east(0, 1));
        HandFast back = Due.of("isle 9 0;east 9;east 9;west 0;west 0;seems 0 0 5 5;seems 1 1 5 5;seems 0 1 3 0");
        back.fair();
        Due.rule(back, "stay 0 if person = 1;stay 3 - best");
        back.force(0);
        back.fair();
        Due.is("a later pair parts too late for that", 1, back.count(7));
    }

    /** Both of a pair look before either has left. */
    private static void handsAndPurse() {
        HandFast h = Due.of("isle 8 0;east 20;west 1;seems 0 0 5 5");
        Due.rule(h, "stay hands - 1;stay 1");
        Due.rule(h, "stay 1 if purse < 13;stay 0");
        h.force(0);
        Due.is("joined", 1, h.fair());
        Due.is("hands are 1", 0, h.fair());
        Due.is("parted", -1, h.east(0, 1));
        Due.is("joined again", 1, h.fair());
        Due.is("hands are 2 of the same one", 0, h.fair());
        Due.is("so they stay", 0, h.east(0, 1));
        Due.is("JOININGS", 2, h.east(0, 3));
        Due.is("JOININGS", 2, h.west(0, 3));
        // EAST: 20 - 8 + 4 - 8 = 8, WEST: 1 + 8 - 4 + 8 = 13
        Due.is("PURSE", 8, h.east(0, 0));
        Due.is("PURSE", 13, h.west(0, 0));
        h.force(1);
        h.fair();
        Due.is("the WEST leaves by purse", -1, h.east(0, 1));
    }

    private static void wrongInputs() {
        HandFast h = Due.of(TWO);
        int[] odd = {-1, 2, 4, Integer.MAX_VALUE, Integer.MIN_VALUE};
        for (int i : odd) {
            Due.is("east(" + i + ", 0)", -2, h.east(i, 0));
            Due.is("west(" + i + ", 0)", -2, h.west(i, 0));
            Due.is("likes(" + i + ", 0, 0)", -1, h.likes(i, 0, 0));
            Due.is("likes(0, " + i + ", 0)", -1, h.likes(0, i, 0));
        }
        Due.is("east(0, 4)", -2, h.east(0, 4));
        Due.is("east(0, -1)", -2, h.east(0, -1));
        Due.is("west(0, 4)", -2, h.west(0, 4));
        Due.is("west(0, -1)", -2, h.west(0, -1));
        Due.is("likes(0, 0, 4)", -1, h.likes(0, 0, 4));
        Due.is("likes(0, 0, -1)", -1, h.likes(0, 0, -1));
    }

    private static void lastYear() {
        HandFast h = Due.of("isle 0 0;east 0;west 0;seems 0 0 5 5;late 60");
        for (int i = 0; i < 999; i++) {
            h.fair();
        }
        Due.is("YEAR", 999, h.count(6));
        Due.is("fair in YEAR 999", -1, h.fair());
        Due.is("YEAR", 999, h.count(6));
        Due.is("years", 999, h.east(0, 2));
        Due.is("ahead goes on beyond", 0, h.ahead(0, 60, 0));
        Due.rule(h, "stay 1005 - year");
        h.force(0);
        Due.is("lasts goes on beyond", 1005, h.lasts(0));
        Due.is("lasts changes nothing", 999, h.count(6));
    }

    private static void empty() {
        HandFast h = Due.of("isle 5 5");
        Due.is("a fair of nobody", 0, h.fair());
        Due.is("YEAR", 1, h.count(6));
        HandFast west = Due.of("isle 5 5;west 3");
        Due.is("a fair of the west alone", 0, west.fair());
        Due.is("west", 3, west.west(0, 0));
    }

    public static void main(String[] args) {
        byStay();
        byRule();
        learning();
        asking();
        pairsInTurn();
        handsAndPurse();
        wrongInputs();
        lastYear();
        empty();
        Due.finish();
    }
}
