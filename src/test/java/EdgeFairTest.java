import java.lang.reflect.Field;

/** FAIRS and ACTS: a test for each sentence of the document's part II that names a boundary. */
public final class EdgeFairTest {
    private static void fairs(HandFast h, int n) {
        for (int i = 0; i < n; i++) h.fair();
    }

    /** To whom each EAST is joined, as told. */
    private static void joined(String when, HandFast h, int... due) {
        for (int east = 0; east < due.length; east++) Due.is("EAST " + east + ", " + when, due[east], h.east(east, 1));
    }

    private static void likes(String when, HandFast h, int ofEast, int ofWest) {
        Due.is("the EAST LIKES, " + when, ofEast, h.likes(0, 0, 0));
        Due.is("the WEST LIKES, " + when, ofWest, h.likes(0, 0, 1));
    }

    /** GIFT, the two PURSES, what is given and what goes back. */
    private static final int[][] GIFTS = {
        {0, 5, 5, 0, 0}, {1, 5, 5, 1, 0}, {2, 5, 5, 2, 1}, {3, 5, 5, 3, 1}, {10, 11, 0, 10, 5}, {10, 10, 0, 10, 5}, {10, 9, 0, 9, 5},
        {10, 6, 0, 6, 5}, {10, 5, 0, 5, 5}, {10, 4, 0, 4, 4}, {10, 1, 0, 1, 1}, {10, 0, 0, 0, 0}, {99, 999, 999, 99, 49},
        {99, 0, 48, 0, 48}, {99, 0, 49, 0, 49}, {99, 0, 50, 0, 49}};

    private static void gifts() {
        Due.terms("Two are JOINED: the EAST gives GIFT to the WEST, or all they have if that is less; each of them has one more JOINING.");
        for (int[] g : GIFTS) {
            String isle = "isle " + g[0] + " 0;east 7;east " + g[1] + ";west 8;west " + g[2] + ";seems 1 1 1 1";
            HandFast h = Due.of(isle);
            Due.is("given by " + isle, g[3], h.join(1, 1));
            Due.is("EAST by " + isle, g[1] - g[3], h.east(1, 0));
            Due.is("WEST by " + isle, g[2] + g[3], h.west(1, 0));
            Due.is("others by " + isle, 15, h.east(0, 0) + h.west(0, 0));
            Due.is("JOININGS of the EAST", 1, h.east(1, 3));
            Due.is("JOININGS of the WEST", 1, h.west(1, 3));
            Due.is("JOININGS of others", 0, h.east(0, 3) + h.west(0, 3));
            HandFast fair = Due.of(isle);
            Due.is("JOINED at a FAIR", 1, fair.fair());
            Due.is("EAST at a FAIR by " + isle, g[1] - g[3], fair.east(1, 0));
            Due.is("WEST at a FAIR by " + isle, g[2] + g[3], fair.west(1, 0));
        }
    }

    private static void returns() {
        Due.terms("Two PART: half of GIFT, downwards, goes back, or all the WEST has if that is less (PURSES are 9999 at most).");
        for (int[] g : GIFTS) {
            String isle = "isle " + g[0] + " 20;east 7;east " + g[1] + ";west 8;west " + g[2] + ";seems 1 1 1 1";
            HandFast h = Due.of(isle);
            h.join(1, 1);
            Due.is("back by " + isle, g[4], h.part(1));
            Due.is("EAST by " + isle, g[1] - g[3] + g[4], h.east(1, 0));
            Due.is("WEST by " + isle, g[2] + g[3] - g[4], h.west(1, 0));
            Due.is("others by " + isle, 15, h.east(0, 0) + h.west(0, 0));
            Due.is("free", 0, h.count(7) + h.count(8));
            Due.is("YEARS", 0, h.east(1, 2) + h.west(1, 2));
            Due.is("JOININGS stay", 2, h.east(1, 3) + h.west(1, 3));
            HandFast fair = Due.of(isle);
            fairs(fair, 2);
            Due.is("EAST behind two FAIRS by " + isle, g[1] - g[3] + g[4], fair.east(1, 0));
        }
        // above 999 nothing is cut
        HandFast rich = Due.of("isle 99 0;east 999;west 999;seems 0 0 1 1");
        for (int i = 1; i <= 18; i++) {
            rich.join(0, 0);
            rich.part(0);
            Due.is("PURSE of the EAST", 999 - 50 * i, rich.east(0, 0));
            Due.is("PURSE of the WEST", 999 + 50 * i, rich.west(0, 0));
        }
    }

    private static Object inside(Object of, String field) throws ReflectiveOperationException {
        Field f = of.getClass().getDeclaredField(field);
        f.setAccessible(true);
        return f.get(of);
    }

    /** All purses together are 7992 at most, so that no calls come to 9999: the most is put there past them. */
    private static void fullPurses() throws ReflectiveOperationException {
        Due.terms("(PURSES are 9999 at most)");
        int[][] rows = {{9900, 9999}, {9901, 9999}, {9899, 9998}, {9999, 9999}};
        for (int[] row : rows) {
            HandFast h = Due.of("isle 99 0;east 999;west 0;seems 0 0 1 1");
            int[] purse = (int[]) inside(inside(inside(h, "world"), "now"), "purse");
            purse[4] = row[0];
            Due.is("given", 99, h.join(0, 0));
            Due.is("PURSE of the WEST", row[1], h.west(0, 0));
            Due.is("PURSE of the EAST", 900, h.east(0, 0));
            purse[0] = row[0] + 50;
            Due.is("back", 49, h.part(0));
            Due.is("PURSE of the EAST", Math.min(9999, row[0] + 99), h.east(0, 0));
        }
    }

    private static void lateBoats() {
        Due.terms("A FAIR: (1) unless the boat is late this YEAR");
        HandFast h = Due.of("isle 0 20;east 0;west 0;seems 0 0 1 1;late 60");
        h.join(0, 0);
        h.fair();
        joined("parted in YEAR 0", h, -1);
        fairs(h, 59);
        Due.is("YEAR", 60, h.count(6));
        joined("joined in YEAR 59", h, 0);
        h.fair();
        joined("YEAR 60 is late", h, 0);
        h.fair();
        joined("YEAR 61 can't be", h, -1);
        HandFast first = Due.of("isle 0 20;east 0;west 0;seems 0 0 1 1;late 0");
        first.join(0, 0);
        first.fair();
        joined("YEAR 0 is late", first, 0);
        first.hold();
        first.fair();
        joined("YEAR 1 is held", first, 0);
        first.fair();
        joined("YEAR 2 is not", first, -1);
        Due.terms("(2) Unless it is late: the free ones are JOINED");
        HandFast free = Due.of("isle 0 0;east 0;west 0;seems 0 0 1 1;late 0");
        Due.is("YEAR 0 is late", 0, free.fair());
        joined("YEAR 0 is late", free, -1);
        free.hold();
        Due.is("YEAR 1 is held", 0, free.fair());
        Due.is("YEAR 2 is not", 1, free.fair());
        joined("YEAR 2 is not", free, 0);
    }

    private static void inTurn() {
        Due.terms("of JOINED ones, EASTS by numbers, each pair wholly ahead of the next");
        String isle = "isle 0 0;east 0;east 0;west 0;west 0;seems 0 1 5 5;seems 1 0 5 5;";
        HandFast first = Due.of(isle + "seems 1 1 3 0");
        fairs(first, 1);
        joined("crossed", first, 1, 0);
        Due.rule(first, "stay 0 if side=0 and person=0;stay 1 if best=0");
        first.force(0);
        first.fair();
        joined("EAST 1 sees that EAST 0 has left WEST 1", first, -1, -1);
        HandFast second = Due.of(isle + "seems 0 0 3 0");
        fairs(second, 1);
        Due.rule(second, "stay 0 if side=0 and person=1;stay 1 if best=0");
        second.force(0);
        second.fair();
        joined("EAST 0 can't see what EAST 1 will do", second, 1, -1);
        // and so do WESTS
        HandFast third = Due.of("isle 8 0;east 8;east 0;west 0;west 0;seems 0 0 5 5;seems 1 1 5 5;seems 0 1 0 4");
        fairs(third, 1);
        Due.rule(third, "stay 0 if side=0 and person=0;stay best-3 if side=1 and person=1;stay 1");
        third.force(0);
        third.fair();
        joined("WEST 1 sees that EAST 0 is free", third, -1, 1);
    }

    private static void firstClause() {
        Due.terms("each of the two STAYS (both by how all is then), if by the RULE IN FORCE the SUM of its first CLAUSE without a TEST, or whose TEST holds "
            + "(0 without), is above 0");
        RuleTextTest.stay("stay 1");
        RuleTextTest.leave("stay 0");
        RuleTextTest.leave("stay 0 - 1");
        RuleTextTest.stay("stay 0 if 1 = 2;stay 1;stay 0");
        RuleTextTest.stay("stay 0 if 1 = 2;stay 1 if 1 = 1;stay 0");
        RuleTextTest.leave("stay 1 if 1 = 2;stay 0;stay 1");
        RuleTextTest.leave("stay 0 if 1 = 1;stay 1");
        RuleTextTest.leave("stay 1 if 1 = 2");
        RuleTextTest.leave("stay 1 if 1 = 2" + Due.repeat(";stay 1 if 1 = 2", 11));
        RuleTextTest.stay("stay 0 if 1 = 2" + Due.repeat(";stay 0 if 1 = 2", 10) + ";stay 1");
    }

    private static void byStay(int stay, int ofEast, int ofWest, boolean stays) {
        HandFast h = Due.of("isle 0 " + stay + ";east 0;west 0;seems 0 0 " + ofEast + " " + ofWest);
        h.join(0, 0);
        h.fair();
        joined("STAY " + stay + ", " + ofEast + " and " + ofWest, h, stays ? 0 : -1);
    }

    private static void stayOrMore() {
        Due.terms("without a RULE, if they LIKE the other one STAY or more");
        byStay(5, 5, 5, true);
        byStay(5, 4, 5, false);
        byStay(5, 5, 4, false);
        byStay(5, 6, 6, true);
        byStay(20, 20, 20, true);
        byStay(20, 19, 20, false);
        byStay(20, 20, 19, false);
        byStay(1, 1, 1, true);
        byStay(0, 1, 1, true);
        HandFast cold = Due.of("isle 0 0;east 0;west 0;seems 0 0 1 1;truly 0 0 0 0");
        fairs(cold, 2);
        likes("in the end", cold, 0, 0);
        joined("0 is STAY", cold, 0);
        HandFast one = Due.of("isle 0 1;east 0;west 0;seems 0 0 1 1;truly 0 0 0 1");
        fairs(one, 2);
        joined("0 is less than STAY", one, -1);
    }

    private static void bothStay() {
        Due.terms("they PART, if not both STAY");
        RuleTextTest.stay("stay 1 if side = 0;stay 1");
        RuleTextTest.leave("stay 1 if side = 0;stay 0");
        RuleTextTest.leave("stay 0 if side = 0;stay 1");
        RuleTextTest.leave("stay 0 if side = 0;stay 0");
    }

    private static void leastAsks() {
        Due.terms("as long as there is a free EAST who has somebody left to ask, the least such asks");
        HandFast h = Due.of("isle 0 0;east 0;east 0;west 0;west 0;seems 0 0 9 0;seems 0 1 5 5;seems 1 1 9 5");
        Due.is("JOINED", 1, h.fair());
        joined("EAST 0 asks twice ahead of EAST 1", h, 1, -1);
        HandFast sent = Due.of("isle 0 0;east 0;east 0;east 0;west 0;west 0;seems 0 0 9 1;seems 0 1 5 5;seems 1 0 9 2;seems 2 1 9 5");
        Due.is("JOINED", 2, sent.fair());
        joined("EAST 0, sent off, asks ahead of EAST 2", sent, 1, 0, -1);
        StringBuilder all = new StringBuilder("isle 0 0" + Due.repeat(";east 0", 4) + Due.repeat(";west 0", 4));
        for (int i = 0; i < 16; i++) all.append(";seems ").append(i / 4).append(' ').append(i % 4).append(' ').append(9 - i % 4)
            .append(' ').append(i % 4 == 3 ? 1 + i / 4 : 0);
        HandFast every = Due.of(all.toString());
        Due.is("each EAST asks each WEST, sixteen times", 1, every.fair());
        joined("the last to ask the last", every, -1, -1, -1, 3);
        HandFast last = Due.of("isle 0 0;east 0;east 0;east 0;east 0;west 0;west 0;west 0;west 0;seems 3 3 1 1");
        Due.is("the last EAST alone", 1, last.fair());
        joined("the last EAST alone", last, -1, -1, -1, 3);
    }

    private static void whomTheyAsk() {
        Due.terms("the WEST they LIKE most of those they have not asked at this FAIR, were not JOINED to as it began, and LIKE more than 0, "
            + "of several the least");
        HandFast cold = Due.of("isle 0 0;east 0;west 0;seems 0 0 0 20");
        Due.is("0 is not more than 0", 0, cold.fair());
        HandFast warm = Due.of("isle 0 0;east 0;west 0;seems 0 0 1 20");
        Due.is("1 is", 1, warm.fair());
        HandFast most = Due.of("isle 0 0;east 0;west 0;west 0;west 0;seems 0 0 18 1;seems 0 1 20 1;seems 0 2 19 20");
        most.fair();
        joined("the most", most, 1);
        HandFast several = Due.of("isle 0 0;east 0;west 0;west 0;west 0;seems 0 0 4 9;seems 0 1 5 1;seems 0 2 5 9");
        several.fair();
        joined("of several the least", several, 1);
        HandFast again = Due.of("isle 0 20;east 0;west 0;seems 0 0 5 5");
        again.fair();
        Due.is("not the one they had", 0, again.fair());
        joined("parted", again, -1);
        Due.is("at the next FAIR, again", 1, again.fair());
        again.part(0);
        Due.is("parted by hand ahead of the FAIR", 1, again.fair());
        HandFast swap = Due.of("isle 0 20;east 0;east 0;west 0;west 0;seems 0 0 5 5;seems 0 1 4 4;seems 1 0 4 4;seems 1 1 5 5");
        Due.is("as they like", 2, swap.fair());
        joined("as they like", swap, 0, 1);
        Due.is("the other way", 2, swap.fair());
        joined("the other way", swap, 1, 0);
        HandFast next = Due.of("isle 0 0;east 0;east 0;west 0;seems 0 0 5 5;seems 1 0 5 9");
        Due.is("EAST 0 is sent off", 1, next.fair());
        next.part(1);
        next.undo();
        joined("EAST 1 has them", next, -1, 0);
        Due.rule(next, "stay 0");
        next.force(0);
        Due.is("EAST 0 asks at this FAIR, too", 1, next.fair());
        joined("EAST 0 has them", next, 0, -1);
    }

    private static void whoIsAsked() {
        Due.terms("WESTS who are free then alone are asked");
        HandFast h = Due.of("isle 0 0;east 0;east 0;west 0;west 0;seems 0 0 1 1;seems 1 0 20 20;seems 1 1 1 1");
        h.join(0, 0);
        Due.is("JOINED", 1, h.fair());
        joined("WEST 0 is not free", h, 0, 1);
        HandFast crossed = Due.of("isle 0 0;east 0;east 0;west 0;west 0;seems 0 1 1 1;seems 1 0 1 1;seems 1 1 20 20");
        crossed.join(0, 1);
        Due.is("JOINED", 1, crossed.fair());
        joined("WEST 1 is not free, WEST 0 is", crossed, 1, 0);
        HandFast freed = Due.of("isle 0 2;east 0;east 0;west 0;west 0;seems 0 0 1 1;seems 1 0 20 20;seems 1 1 1 1");
        freed.join(0, 0);
        Due.is("JOINED", 1, freed.fair());
        joined("WEST 0 is free by then", freed, -1, 0);
    }

    private static void atHand(int ofFirst, int ofSecond, int first, int second) {
        HandFast h = Due.of("isle 0 0;east 0;east 0;west 0;west 0;seems 0 0 9 " + ofFirst + ";seems 1 0 9 " + ofSecond + ";seems 0 1 1 1;seems 1 1 1 1");
        h.fair();
        joined("WEST 0 LIKES " + ofFirst + " and " + ofSecond, h, first, second);
    }

    private static void whoIsAtHand() {
        Due.terms("one who LIKES them more than 0, and has nobody at hand, or LIKES them more than who is, has them at hand (the other one is free "
            + "again)");
        atHand(5, 4, 0, 1);
        atHand(5, 5, 0, 1);
        atHand(5, 6, 1, 0);
        atHand(0, 1, 1, 0);
        atHand(1, 0, 0, 1);
        atHand(20, 20, 0, 1);
        atHand(19, 20, 1, 0);
        HandFast nobody = Due.of("isle 0 0;east 0;east 0;west 0;seems 0 0 9 0;seems 1 0 9 0");
        Due.is("WEST 0 LIKES nobody", 0, nobody.fair());
    }

    private static void atLast() {
        Due.terms("At last each WEST and who is at hand are JOINED, WESTS by numbers.");
        HandFast four = Due.of("isle 5 0;east 9;east 9;east 9;east 9;west 1;west 2;west 3;west 4;seems 0 3 1 1;seems 1 2 1 1;seems 2 1 1 1;seems 3 0 1 1");
        Due.is("all of them", 4, four.fair());
        joined("all of them", four, 3, 2, 1, 0);
        Due.is("EASTS", 15, four.count(7));
        Due.is("WESTS", 15, four.count(8));
        for (int i = 0; i < 4; i++) {
            Due.is("PURSE", 4, four.east(i, 0));
            Due.is("PURSE", 6 + i, four.west(i, 0));
            Due.is("JOININGS", 1, four.east(i, 3));
        }
        Due.is("all go on", 0, four.fair());
        HandFast nobody = Due.of("isle 0 0");
        Due.is("nobody at all", 0, nobody.fair());
        HandFast east = Due.of("isle 0 0;east 0;east 0;east 0;east 0");
        Due.is("no WESTS", 0, east.fair());
        HandFast west = Due.of("isle 0 0;west 0;west 0;west 0;west 0");
        Due.is("no EASTS", 0, west.fair());
    }

    private static void aYear() {
        Due.terms("(3) A year goes by: each two who are JOINED LIKE each other by 1 more or less, towards what they truly would.");
        HandFast h = Due.of("isle 0 0;east 0;west 0;seems 0 0 1 18;truly 0 0 0 20;late 1");
        h.fair();
        likes("joined at this FAIR", h, 0, 19);
        h.fair();
        likes("the boat is late", h, 0, 20);
        h.fair();
        likes("no more than truly", h, 0, 20);
        HandFast even = Due.of("isle 0 0;east 0;west 0;seems 0 0 7 7");
        even.fair();
        likes("as it seems", even, 7, 7);
        HandFast hand = Due.of("isle 0 9;east 0;east 0;west 0;seems 0 0 8 9;truly 0 0 20 0;seems 1 0 5 0;truly 1 0 9 9");
        hand.join(0, 0);
        likes("joined by hand", hand, 8, 9);
        hand.fair();
        likes("parted at this FAIR", hand, 8, 9);
        Due.is("free ones, too", 5, hand.likes(1, 0, 0));
        Due.is("truly stays", 20, hand.likes(0, 0, 2));
        HandFast all = Due.of("isle 0 0;east 0;west 0;seems 0 0 1 20;truly 0 0 20 0");
        for (int i = 1; i <= 21; i++) {
            all.fair();
            likes("FAIR " + i, all, Math.min(20, 1 + i), Math.max(0, 20 - i));
            Due.is("YEARS", i, all.east(0, 2));
            Due.is("YEARS", i, all.west(0, 2));
        }
    }

    private static void lastYear() {
        Due.terms("YEAR is 1 more (999 at most by hand; what is asked goes on beyond).");
        HandFast h = Due.of("isle 0 0;east 0;west 0;seems 0 0 5 5");
        Due.rule(h, "stay 1 if year < 1005");
        h.force(0);
        for (int year = 0; year < 999; year++) {
            Due.is("YEAR", year, h.count(6));
            Due.holds("a FAIR", h.fair() >= 0);
        }
        Due.is("YEAR", 999, h.count(6));
        Due.is("fair", -1, h.fair());
        Due.is("YEAR", 999, h.count(6));
        Due.is("YEARS", 999, h.east(0, 2));
        Due.is("LASTS beyond", 1005, h.lasts(0));
        Due.is("AHEAD beyond", 0, h.ahead(0, 6, 0));
        Due.is("AHEAD beyond", -1, h.ahead(0, 7, 0));
        Due.is("ISLES beyond", 0, h.isles(1, 7, 0, 0));
        Due.is("ISLES beyond", 1, h.isles(1, 8, 0, 1));
        Due.is("KEEP beyond", 0, h.keep(0, 6));
        Due.is("KEEP beyond", -2, h.keep(0, 7));
        Due.is("undo", 19, h.undo());
        Due.is("a FAIR again", 0, h.fair());
        Due.is("YEAR", 999, h.count(6));
    }

    private static void acts() {
        Due.terms("ACTS: a FAIR; JOIN (two who are free, each LIKES the other one more than 0)");
        HandFast h = Due.of("isle 0 0;east 0;east 0;west 0;west 0;seems 0 0 1 1;seems 0 1 1 0;seems 1 0 0 1;seems 1 1 20 20");
        Due.is("1 and 0", -1, h.join(0, 1));
        Due.is("0 and 1", -1, h.join(1, 0));
        Due.is("1 and 1", 0, h.join(0, 0));
        Due.is("both are joined", -1, h.join(0, 0));
        HandFast three = Due.of("isle 0 0;east 0;east 0;west 0;west 0;seems 0 0 1 1;seems 0 1 1 1;seems 1 0 1 1");
        three.join(0, 0);
        Due.is("the EAST is joined", -1, three.join(0, 1));
        Due.is("the WEST is joined", -1, three.join(1, 0));
        Due.is("neither LIKES", -1, three.join(1, 1));
        Due.terms("PART (of one of the east who is JOINED)");
        Due.is("free", -1, three.part(1));
        Due.is("joined", 0, three.part(0));
        Due.is("free again", -1, three.part(0));
    }

    private static void holding() {
        Due.terms("HOLD (the boat of this YEAR is late, that is not; YEAR 60 at most)");
        HandFast h = Due.of("isle 0 0;late 59");
        Due.is("YEAR 0", 2, h.hold());
        Due.is("is late", 1, h.count(9));
        Due.is("is late already", -1, h.hold());
        fairs(h, 59);
        Due.is("YEAR 59 is told", -1, h.hold());
        h.fair();
        Due.is("YEAR 60 is not late", 0, h.count(9));
        Due.is("YEAR 60", 3, h.hold());
        Due.is("is late", 1, h.count(9));
        Due.is("is late already", -1, h.hold());
        h.fair();
        Due.is("YEAR 61", -1, h.hold());
        Due.is("is not late", 0, h.count(9));
        Due.is("YEARS that are", 3, h.count(10));
        fairs(h, 3);
        Due.is("YEAR 64 is not YEAR 0", 0, h.count(9));
        Due.is("nor can be held", -1, h.hold());
    }

    private static void undone() {
        Due.terms("The last 20 can be UNDONE, the last first.");
        HandFast h = Due.of("isle 10 0;east 999;west 0;seems 0 0 5 5");
        for (int i = 1; i <= 23; i++) {
            if (i % 2 == 1) {
                h.join(0, 0);
            } else {
                h.part(0);
            }
            Due.is("ACTS", Math.min(20, i), h.count(12));
        }
        for (int i = 22; i >= 3; i--) {
            Due.is("undo", i - 3, h.undo());
            Due.is("behind ACT " + i, i % 2, h.count(7));
            Due.is("PURSE behind ACT " + i, 999 - 5 * (i / 2) - (i % 2) * 10, h.east(0, 0));
            Due.is("JOININGS behind ACT " + i, (i + 1) / 2, h.west(0, 3));
        }
        Due.is("the 21st", -1, h.undo());
        Due.is("JOININGS", 2, h.west(0, 3));
        HandFast each = Due.of("isle 10 0;east 999;west 0;seems 0 0 5 5;truly 0 0 9 0");
        Due.is("none yet", -1, each.undo());
        each.hold();
        each.join(0, 0);
        each.fair();
        each.part(0);
        Due.is("a PART", 3, each.undo());
        Due.is("joined", 1, each.count(7));
        Due.is("a FAIR", 2, each.undo());
        likes("behind no FAIR", each, 5, 5);
        Due.is("YEAR", 0, each.count(6));
        Due.is("a JOIN", 1, each.undo());
        Due.is("free", 0, each.count(7));
        Due.is("late", 1, each.count(9));
        Due.is("a HOLD", 0, each.undo());
        Due.is("late", 0, each.count(9));
        Due.is("none more", -1, each.undo());
    }

    public static void main(String[] args) throws ReflectiveOperationException {
        gifts();
        returns();
        fullPurses();
        lateBoats();
        inTurn();
        firstClause();
        stayOrMore();
        bothStay();
        leastAsks();
        whomTheyAsk();
        whoIsAsked();
        whoIsAtHand();
        atLast();
        aYear();
        lastYear();
        acts();
        holding();
        undone();
        Due.finish();
    }
}
