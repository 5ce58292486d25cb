/** What is asked from now on: a test for each sentence of the document's part III that names a boundary. */
public final class EdgeAskTest {
    private static final String PAIR = "isle 0 0;east 0;west 0;seems 0 0 5 5";

    private static HandFast pair(String isle, String... rules) {
        HandFast h = Due.of(isle);
        for (String rule : rules) Due.rule(h, rule);
        h.join(0, 0);
        h.force(rules.length == 0 ? -1 : 0);
        return h;
    }

    private static void settled(String when, HandFast h, int... due) {
        for (int what = 0; what < 6; what++) Due.is("settled(" + what + "), " + when, due[what], h.settled(what));
    }

    private static void tries(String when, HandFast h, int east, int n, int whom, int much) {
        Due.is("tries(" + east + ", " + n + ", 0), " + when, whom, h.tries(east, n, 0));
        Due.is("tries(" + east + ", " + n + ", 1), " + when, much, h.tries(east, n, 1));
    }

    private static void byForce() {
        Due.terms("(By what is asked nothing changes; FAIRS go on by the RULE IN FORCE.)");
        HandFast h = pair(PAIR, "stay 1 if year < 2", "stay 1 if year < 1");
        Due.is("AHEAD by RULE 0", 0, h.ahead(0, 2, 0));
        Due.is("LASTS by RULE 0", 2, h.lasts(0));
        Due.is("KEEP by RULE 0", 0, h.keep(0, 2));
        Due.is("ISLES by RULE 0", 1, h.isles(1, 2, 0, 0));
        h.force(1);
        Due.is("AHEAD by RULE 1", -1, h.ahead(0, 2, 0));
        Due.is("LASTS by RULE 1", 1, h.lasts(0));
        Due.is("KEEP by RULE 1", -2, h.keep(0, 2));
        Due.is("ISLES by RULE 1", 0, h.isles(1, 2, 0, 0));
        h.force(-1);
        Due.is("AHEAD by none", 0, h.ahead(0, 60, 0));
        Due.is("LASTS by none", -2, h.lasts(0));
        Due.is("KEEP by none", 0, h.keep(0, 30));
        Due.is("ISLES by none", 1, h.isles(1, 30, 0, 0));
        h.part(0);
        tries("by none", h, 0, 4, -1, 20);
        h.force(1);
        tries("by RULE 1", h, 0, 4, -1, 10);
    }

    private static void ahead() {
        Due.terms("AHEAD n FAIRS (0 to 60): to whom an EAST is JOINED;");
        HandFast h = pair(PAIR, "stay 1 if year < 59", "stay 1 if year < 60", "stay 0");
        Due.is("59", 0, h.ahead(0, 59, 0));
        Due.is("60: parted at the last", -1, h.ahead(0, 60, 0));
        Due.is("61", -2, h.ahead(0, 61, 0));
        h.force(1);
        Due.is("60: not yet", 0, h.ahead(0, 60, 0));
        h.force(2);
        Due.is("0: as it is now", 0, h.ahead(0, 0, 0));
        Due.is("1", -1, h.ahead(0, 1, 0));
        Due.is("2", 0, h.ahead(0, 2, 0));
        Due.is("-1", -2, h.ahead(0, -1, 0));
        Due.terms("how much they LIKE them (0 without); the PURSE of an EAST, of a WEST.");
        Due.is("0: now", 5, h.ahead(0, 0, 1));
        Due.is("free then", 0, h.ahead(0, 1, 1));
        HandFast cold = pair("isle 0 0;east 0;west 0;seems 0 0 20 5;truly 0 0 0 5");
        Due.is("behind 19", 1, cold.ahead(0, 19, 1));
        Due.is("behind 20", 0, cold.ahead(0, 20, 1));
        Due.is("behind 60", 0, cold.ahead(0, 60, 1));
        Due.is("though joined", 0, cold.ahead(0, 60, 0));
        HandFast purses = pair("isle 7 0;east 30;west 1;seems 0 0 5 5", "stay 0");
        // behind fairs 0 to 5 they are joined, parted in turn: each time 7 goes there and 3 back
        int[] east = {23, 26, 19, 22, 15, 18};
        for (int n = 0; n < east.length; n++) {
            Due.is("PURSE of the EAST behind " + n, east[n], purses.ahead(0, n, 2));
            Due.is("PURSE of the WEST behind " + n, 31 - east[n], purses.ahead(0, n, 3));
        }
    }

    private static void lasts() {
        Due.terms("LASTS of an EAST who is JOINED: the YEAR at whose FAIR they PART, in 60 FAIRS.");
        HandFast h = pair(PAIR, "stay 0", "stay 1 if year < 59", "stay 1 if year < 60", "stay 1");
        Due.is("at the first", 0, h.lasts(0));
        h.force(1);
        Due.is("at the 60th", 59, h.lasts(0));
        h.force(2);
        Due.is("at the 61st", -2, h.lasts(0));
        h.fair();
        Due.is("the 61st is the 60th now", 60, h.lasts(0));
        h.force(3);
        Due.is("never", -2, h.lasts(0));
        h.part(0);
        Due.is("free", -1, h.lasts(0));
        HandFast late = pair(PAIR + ";late 0;late 1", "stay 0");
        Due.is("not in late YEARS", 2, late.lasts(0));
    }

    private static void settledRows() {
        Due.terms("SETTLED: of the free ones now, rows of whom each free EAST has (or nobody), no WEST twice, each two LIKING each other more than 0");
        settled("nobody there", Due.of("isle 0 0"), 1, -2, -2, -2, -2, 0);
        settled("WESTS alone", Due.of("isle 0 0;west 0"), 1, -2, -2, -2, -2, 0);
        settled("EASTS alone", Due.of("isle 0 0;east 0;east 0"), 1, -1, -1, -2, -2, 0);
        settled("1 and 1", Due.of("isle 0 0;east 0;west 0;seems 0 0 1 1"), 1, 0, -2, -2, -2, 2);
        settled("1 and 0", Due.of("isle 0 0;east 0;west 0;seems 0 0 1 0"), 1, -1, -2, -2, -2, 0);
        settled("0 and 1", Due.of("isle 0 0;east 0;west 0;seems 0 0 0 1"), 1, -1, -2, -2, -2, 0);
        settled("20 and 20", Due.of("isle 0 0;east 0;west 0;seems 0 0 20 20"), 1, 0, -2, -2, -2, 40);
        settled("all are joined", pair(PAIR), 1, -2, -2, -2, -2, 0);
        HandFast one = pair("isle 0 0;east 0;east 0;east 0;east 0;west 0;west 0;west 0;west 0;seems 0 0 1 1;seems 3 3 2 3;seems 1 0 20 20");
        settled("one pair is joined", one, 1, -2, -1, -1, 3, 5);
        StringBuilder all = new StringBuilder("isle 0 0" + Due.repeat(";east 0", 4) + Due.repeat(";west 0", 4));
        for (int i = 0; i < 16; i++) all.append(";seems ").append(i / 4).append(' ').append(i % 4).append(" 20 20");
        settled("all alike", Due.of(all.toString()), 24, 0, 1, 2, 3, 160);
    }

    private static void wouldRather() {
        Due.terms("in which there are no two who both would rather (who LIKE each other more than 0, and each more than whom they have, or have nobody)");
        String two = "isle 0 0;east 0;east 0;west 0;west 0;";
        settled("EASTS and WESTS want the other way", Due.of(two + "seems 0 0 2 1;seems 0 1 1 2;seems 1 0 1 2;seems 1 1 2 1"), 2, 0, 1, -2, -2, 6);
        settled("EAST 0 LIKES both alike", Due.of(two + "seems 0 0 2 1;seems 0 1 2 2;seems 1 0 1 2;seems 1 1 2 1"), 2, 0, 1, -2, -2, 7);
        settled("WEST 0 LIKES EAST 0 as much", Due.of(two + "seems 0 0 2 2;seems 0 1 1 2;seems 1 0 1 2;seems 1 1 2 1"), 2, 0, 1, -2, -2, 7);
        settled("WEST 0 LIKES EAST 0 more", Due.of(two + "seems 0 0 2 3;seems 0 1 1 2;seems 1 0 1 2;seems 1 1 2 1"), 1, 0, 1, -2, -2, 8);
        settled("two who have nobody", Due.of(two + "seems 0 0 1 1;seems 1 1 1 1"), 1, 0, 1, -2, -2, 4);
        settled("one LIKES without being liked", Due.of(two + "seems 0 0 1 1;seems 1 0 9 0;seems 0 1 9 0"), 1, 0, -1, -2, -2, 2);
        Due.terms("how many; the first (nobody ahead of WEST 0, EAST 0 first); the one that is best liked by all in it together, "
            + "of several the first: how much.");
        settled("nobody is first", Due.of("isle 0 0;east 0;east 0;west 0;seems 0 0 1 3;seems 1 0 1 3"), 2, -1, 0, -2, -2, 4);
        settled("EAST 0 first", Due.of(two + "seems 0 0 1 1;seems 0 1 1 1;seems 1 0 1 1;seems 1 1 1 1"), 2, 0, 1, -2, -2, 4);
        settled("the last is best", Due.of("isle 0 0;east 0;east 0;west 0;seems 0 0 20 3;seems 1 0 1 3"), 2, -1, 0, -2, -2, 23);
        settled("the first is best", Due.of("isle 0 0;east 0;east 0;west 0;seems 0 0 1 3;seems 1 0 20 3"), 2, -1, 0, -2, -2, 23);
    }

    private static void tryFairs() {
        Due.terms("TRY for a free EAST for n FAIRS (1 to 30)");
        HandFast h = Due.of(PAIR);
        tries("1", h, 0, 1, -1, 5);
        tries("30", h, 0, 30, -1, 150);
        tries("0", h, 0, 0, -2, -2);
        tries("31", h, 0, 31, -2, -2);
        h.join(0, 0);
        tries("joined", h, 0, 1, -2, -2);
        Due.terms("whom to be JOINED to now (so that they could be by hand), or nobody, then n FAIRS: so that what they LIKE whom they have is most, "
            + "together, at the end of each (0 without): of several nobody, then the least; how much.");
        tries("nobody there", Due.of("isle 0 0;east 0"), 0, 30, -1, 0);
        tries("not liked", Due.of("isle 0 0;east 0;west 0;seems 0 0 20 0;late 0"), 0, 1, -1, 0);
        tries("not liking", Due.of("isle 0 0;east 0;west 0;seems 0 0 0 20;truly 0 0 20 20;late 0"), 0, 1, -1, 0);
        tries("late", Due.of(PAIR + ";late 0"), 0, 1, 0, 5);
        tries("late once", Due.of(PAIR + ";late 0"), 0, 2, 0, 10);
        tries("at the end it is 0", Due.of("isle 0 0;east 0;west 0;seems 0 0 1 1;truly 0 0 0 1;late 0"), 0, 1, -1, 0);
        tries("of several the least", Due.of("isle 0 0;east 0;west 0;west 0;west 0;seems 0 0 4 4;seems 0 1 5 5;seems 0 2 5 5;late 0"), 0, 1, 1, 5);
        tries("of several nobody", Due.of("isle 0 0;east 0;west 0;west 0;seems 0 0 5 5;seems 0 1 5 5"), 0, 3, -1, 15);
        tries("as much at the end of each", Due.of("isle 0 0;east 0;west 0;west 0;seems 0 0 5 5;seems 0 1 4 4;truly 0 1 5 4"), 0, 3, -1, 15);
        tries("5, 6 and 7 at the end of each", Due.of("isle 0 0;east 0;west 0;west 0;seems 0 0 5 5;seems 0 1 4 4;truly 0 1 7 4"), 0, 3, 1, 18);
        HandFast taken = Due.of("isle 0 0;east 0;east 0;west 0;west 0;seems 0 0 9 9;seems 0 1 1 1;seems 1 0 9 9;late 0");
        taken.join(1, 0);
        tries("WEST 0 is joined", taken, 0, 1, 1, 1);
        // EAST 1 is there first at the fair, but not by hand
        HandFast race = Due.of("isle 0 0;east 0;east 0;west 0;seems 0 0 9 1;seems 1 0 9 9");
        tries("ahead of EAST 1", race, 0, 2, 0, 18);
        tries("EAST 1 need not", race, 1, 2, -1, 18);
    }

    private static void liked() {
        Due.terms("LIKED: the EAST whom all of the west together truly would LIKE most; of several the least; how much.");
        HandFast h = Due.of("isle 0 0;east 0;east 0;east 0;west 0;west 0;seems 0 0 0 20;truly 0 0 20 3;truly 1 0 0 2;truly 1 1 0 2;truly 2 0 0 4");
        Due.is("of several the least", 1, h.liked(0));
        Due.is("how much", 4, h.liked(1));
        HandFast cold = Due.of("isle 0 0;east 0;east 0;west 0;seems 0 0 20 0");
        Due.is("nobody is", 0, cold.liked(0));
        Due.is("by 0", 0, cold.liked(1));
        HandFast most = Due.of("isle 0 0;east 0;west 0;west 0;west 0;west 0;east 0;truly 1 0 0 20;truly 1 1 0 20;truly 1 2 0 20;truly 1 3 0 20");
        Due.is("by all", 1, most.liked(0));
        Due.is("the most", 80, most.liked(1));
    }

    private static void doorsOf(String isle, int years, int many, int first) {
        HandFast h = Due.of(isle);
        h.join(0, 0);
        Due.rule(h, "stay 1");
        h.force(0);
        for (int i = 0; i < years; i++) h.fair();
        Due.is("doors(0, 0) of " + isle + " in YEAR " + years, many, h.doors(0, 0));
        Due.is("doors(0, 1) of " + isle + " in YEAR " + years, first, h.doors(0, 1));
    }

    private static String doorIsle(int gift, int stay, int ofEast, int ofWest) {
        return "isle " + gift + " " + stay + ";east 99;west 0;seems 0 0 " + ofEast + " " + ofWest;
    }

    private static void doors() {
        Due.terms("DOORS of an EAST who is JOINED and the other one: each goes out by the door to STAY, or to PART; who STAYS has, if the other one does, "
            + "what they LIKE, less how many YEARS they have been JOINED");
        // who stays alone has -10: both stay, if each has 6 or more, and both part
        doorsOf(doorIsle(0, 6, 6, 6), 0, 2, 0);
        doorsOf(doorIsle(0, 6, 5, 6), 0, 1, 3);
        doorsOf(doorIsle(0, 6, 6, 5), 0, 1, 3);
        doorsOf(doorIsle(0, 6, 8, 9), 2, 2, 0);
        doorsOf(doorIsle(0, 6, 8, 9), 3, 1, 3);
        doorsOf(doorIsle(0, 0, 1, 1), 1, 2, 0);
        doorsOf(doorIsle(0, 0, 1, 1), 2, 1, 3);
        Due.terms("who PARTS has STAY, if the other one STAYS, and STAY / 2, downwards, if both PART; who STAYS when the other one PARTS has half of GIFT, "
            + "downwards, less 10");
        // both part: 7 / 2 is 3, and who stays alone has 3 by 26 and 27, 4 by 28 and 29
        doorsOf(doorIsle(26, 7, 1, 1), 0, 3, 1);
        doorsOf(doorIsle(27, 7, 1, 1), 0, 3, 1);
        doorsOf(doorIsle(28, 7, 1, 1), 0, 2, 1);
        doorsOf(doorIsle(24, 7, 1, 1), 0, 1, 3);
        doorsOf(doorIsle(25, 7, 1, 1), 0, 1, 3);
        // both part: 8 / 2 is 4
        doorsOf(doorIsle(29, 8, 1, 1), 0, 3, 1);
        doorsOf(doorIsle(30, 8, 1, 1), 0, 2, 1);
        Due.terms("which of the four (the first's, then the second's; STAY ahead of PART) are such that neither would have more by the other door: "
            + "how many; the first, as 2 * (EAST PARTS) + (WEST PARTS).");
        doorsOf(doorIsle(26, 7, 7, 7), 0, 4, 0);
        doorsOf(doorIsle(28, 7, 7, 7), 0, 3, 0);
        doorsOf(doorIsle(28, 7, 8, 8), 0, 1, 0);
        doorsOf(doorIsle(28, 7, 8, 1), 0, 1, 1);
        doorsOf(doorIsle(28, 7, 1, 8), 0, 1, 2);
        doorsOf(doorIsle(28, 7, 7, 1), 0, 2, 1);
        doorsOf(doorIsle(28, 7, 1, 7), 0, 2, 1);
        doorsOf(doorIsle(24, 7, 8, 1), 0, 1, 3);
        Due.promise(20, "(-2: there is none)");
        // there is always one: both part, if it is no better to stay alone; else one of the others
        for (int gift : new int[] {0, 1, 19, 20, 21, 26, 27, 28, 40, 60, 99}) {
            for (int stay : new int[] {0, 1, 7, 8, 20}) {
                for (int i = 0; i < 9; i++) {
                    HandFast h = pair(doorIsle(gift, stay, 1 + i / 3 * 7, 1 + i % 3 * 7));
                    Due.holds("one at least", h.doors(0, 0) >= 1 && h.doors(0, 1) >= 0);
                }
            }
        }
    }

    /** EAST 0 has WEST 2, EAST 2 has WEST 1: sides that are told apart by numbers alone. */
    private static HandFast crossed() {
        HandFast h = Due.of("isle 0 6;east 0;east 0;east 0;west 0;west 0;west 0;west 0;seems 0 2 9 9;seems 2 1 7 5;seems 1 3 3 4;seems 0 0 1 1;"
            + "seems 1 1 2 2;seems 2 2 8 8;seems 1 0 4 3");
        h.join(0, 2);
        h.join(2, 1);
        return h;
    }

    private static void crossedPairs() {
        Due.terms("==== III. (By what is asked nothing changes; FAIRS go on by the RULE IN FORCE.)");
        HandFast h = crossed();
        int[][] doors = {{2, 0}, {-1, -1}, {1, 3}};
        int[] lasts = {-2, -1, 0};
        int[] keep = {0, -1, -2};
        int[] ahead = {2, 0, -1};
        for (int east = 0; east < 3; east++) {
            Due.is("doors(" + east + ", 0)", doors[east][0], h.doors(east, 0));
            Due.is("doors(" + east + ", 1)", doors[east][1], h.doors(east, 1));
            Due.is("lasts(" + east + ")", lasts[east], h.lasts(east));
            Due.is("keep(" + east + ", 30)", keep[east], h.keep(east, 30));
            Due.is("ahead(" + east + ", 1, 0)", ahead[east], h.ahead(east, 1, 0));
        }
        settled("EAST 1, WEST 0 and WEST 3 are free", h, 1, -2, 0, -2, -2, 7);
        tries("EAST 1 alone", h, 1, 1, -1, 4);
        tries("EAST 0 is joined", h, 0, 1, -2, -2);
        Due.is("ISLES: EAST 1 is joined, EAST 2 parts", 2, h.isles(1, 1, 0, 0));
        Due.is("ISLES: late", 2, h.isles(1, 1, 100, 0));
        // what the EAST has is LIKED more by the WEST than by the EAST
        String two = "isle 0 0;east 0;east 0;west 0;west 0;";
        settled("EASTS and WESTS LIKE by far more", Due.of(two + "seems 0 0 9 2;seems 0 1 8 7;seems 1 0 5 1;seems 1 1 6 3"), 1, 0, 1, -2, -2, 20);
        settled("WESTS LIKE by far more", Due.of(two + "seems 0 0 2 9;seems 0 1 1 20;seems 1 0 1 8;seems 1 1 2 19"), 1, 0, 1, -2, -2, 32);
        settled("EASTS LIKE by far more", Due.of(two + "seems 0 0 9 1;seems 0 1 20 2;seems 1 0 8 2;seems 1 1 19 1"), 1, 1, 0, -2, -2, 32);
        settled("each way", Due.of(two + "seems 0 0 5 9;seems 0 1 4 20;seems 1 0 20 12;seems 1 1 3 3"), 1, 1, 0, -2, -2, 56);
    }

    private static void keep() {
        Due.terms("KEEP of an EAST who is JOINED for n FAIRS (1 to 30): the least GIFT, 0 to 99, in place of what it is");
        HandFast h = pair("isle 50 0;east 0;west 0;seems 0 0 5 5", "stay 1", "stay gift", "stay gift-49", "stay gift-98", "stay gift-99", "stay 50-gift");
        int[] least = {0, 1, 50, 99, -2, 0};
        for (int rule = 0; rule < least.length; rule++) {
            h.force(rule);
            Due.is("by RULE " + rule, least[rule], h.keep(0, 1));
            Due.is("for 30 by RULE " + rule, least[rule], h.keep(0, 30));
            Due.is("for 0", -1, h.keep(0, 0));
            Due.is("for 31", -1, h.keep(0, 31));
        }
        Due.is("GIFT", 50, h.count(0));
        HandFast thirty = pair(PAIR, "stay 1 if year < 30 or gift = 77", "stay 1 if year < 29 or gift = 77");
        Due.is("the 31st FAIR is none of them", 0, thirty.keep(0, 30));
        thirty.force(1);
        Due.is("the 30th is", 77, thirty.keep(0, 30));
        Due.is("but not of 29", 0, thirty.keep(0, 29));
        Due.terms("by which they are JOINED to the same one, without a break, behind each of them");
        HandFast again = pair(PAIR, "stay 1 if not year = 1 or gift = 9");
        Due.is("they would be joined again", 0, again.ahead(0, 3, 0));
        Due.is("but for a break", 9, again.keep(0, 3));
        Due.is("ahead of it", 0, again.keep(0, 1));
        HandFast other = pair("isle 0 0;east 0;west 0;west 0;seems 0 0 5 5;seems 0 1 5 5", "stay 0");
        Due.is("they would have another one", 1, other.ahead(0, 1, 0));
        Due.is("not the same one", -2, other.keep(0, 1));
        other.part(0);
        Due.is("free", -1, other.keep(0, 1));
    }

    public static void main(String[] args) {
        byForce();
        ahead();
        lasts();
        settledRows();
        wouldRather();
        tryFairs();
        liked();
        doors();
        crossedPairs();
        keep();
        Due.finish();
    }
}
