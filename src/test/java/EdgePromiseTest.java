import java.util.function.BiFunction;
import java.util.function.Consumer;
import java.util.function.ToIntFunction;

/** Promises 1 to 30: a test for each sentence that tells what is answered at a boundary, or to a call that is refused. */
public final class EdgePromiseTest {
    private static final int LEAST = Integer.MIN_VALUE;
    private static final int MOST = Integer.MAX_VALUE;
    private static final Consumer<HandFast> NEW = h -> { };

    /** A call of one number, refused for each of these. */
    private static void refused(String call, int due, BiFunction<HandFast, Integer, Integer> ask, int... numbers) {
        for (int n : numbers) Twin.refused(call + " of " + n, due, h -> ask.apply(h, n));
    }

    private static Consumer<HandFast> richThen(Consumer<HandFast> more) {
        return h -> {
            Twin.rich(h);
            more.accept(h);
        };
    }

    private static void newObject() {
        Due.promise(1, "No ISLE, no RULES, none IN FORCE.");
        HandFast h = new HandFast();
        Due.is("no ISLE", -1, h.fair());
        Due.is("no RULES", 0, h.count(4));
        Due.is("none IN FORCE", -1, h.count(5));
        for (int what = 0; what < 15; what++) Due.is("count(" + what + ")", what == 5 ? -1 : 0, h.count(what));
        Due.is("RULE 0", -2, h.force(0));
        Due.is("nothing to be UNDONE", -1, h.undo());
        for (int k = 0; k < 4; k++) Due.is("no IMAGE", -1, h.back(k));
        HandFast other = new HandFast();
        Twin.rich(other);
        Due.is("objects have nothing of one another", 0, h.count(4) + h.count(14) + h.count(11));
    }

    private static void feed() {
        Due.promise(2, "Twenty bytes come behind the TAPE, of each number the highest first: how many it has");
        HandFast h = new HandFast();
        Due.is("isle 12 13;east 987;", 20, h.feed(0x69736c65, 0x20313220, 0x31333b65, 0x61737420, 0x3938373b));
        Due.is("late 60;west 654 ", 40, h.feed(0x6c617465, 0x2036303b, 0x77657374, 0x20363534, 0x20202020));
        Due.is("isle", 1, h.isle());
        Due.is("GIFT", 12, h.count(0));
        Due.is("STAY", 13, h.count(1));
        Due.is("EAST", 987, h.east(0, 0));
        Due.is("WEST", 654, h.west(0, 0));
        for (int place = 0; place < 20; place++) {
            int[] a = {0x20202020, 0x20202020, 0x20202020, 0x20202020, 0x20202020};
            a[place / 4] |= 0xff << 24 - place % 4 * 8;
            h.feed(a[0], a[1], a[2], a[3], a[4]);
            Due.is("a byte 255 at place " + place, Due.fault(place, 0), h.isle());
        }
        h.feed(0x80808080, LEAST, MOST, -1, 0);
        Due.is("a byte 128", Due.fault(0, 0), h.isle());
        Due.promise(2, "NONE, and none comes, if it would have more than 400.");
        for (int n = 381; n <= 400; n++) {
            int bytes = n;
            Twin.refused("feed at " + n, -1, t -> t.feed(0x69736c65, 0x20302030, 0, 0, 0), richThen(t -> fill(t, bytes)));
        }
        HandFast full = new HandFast();
        fill(full, 380);
        Due.is("feed at 380", 400, full.feed(0, 0, 0, 0, 0));
        Due.is("feed at 400", -1, full.feed(0, 0, 0, 0, 0));
        Due.is("bytes", 400, full.count(14));
    }

    /** The tape has n bytes: blanks, and a byte at its end that can't be. */
    private static void fill(HandFast h, int n) {
        Due.tape(h, Due.repeat(" ", n - 1) + "?");
    }

    private static void end() {
        Due.promise(3, "The TAPE has its first n bytes alone: n");
        HandFast h = new HandFast();
        Due.is("end(0) of none", 0, h.end(0));
        fill(h, 400);
        Due.is("all", 400, h.end(400));
        Due.is("but one", 399, h.end(399));
        Due.is("which can't be had again", -1, h.end(400));
        Due.is("end(7)", 7, h.end(7));
        Due.is("behind these", 27, h.feed(0x69736c65, 0x20302030, 0x20202020, 0x20202020, 0x20202020));
        Due.is("an ISLE behind seven blanks", 0, h.isle());
        Due.promise(3, "NONE, and nothing happens, if it has not so many, or n is below 0.");
        refused("end", -1, (t, n) -> t.end(n), -1, 23, 400, 401, LEAST, MOST);
        Twin.refused("end(1) of none", -1, t -> t.end(1), NEW);
        Twin.refused("end(-1) of none", -1, t -> t.end(-1), NEW);
        Twin.refused("end(401)", -1, t -> t.end(401), t -> fill(t, 400));
    }

    private static void isle() {
        Due.promise(4, "The TAPE, which is empty then, is the ISLE in place of the one there was (no NOTES, nothing to be UNDONE; "
            + "the RULE IN FORCE and x stay): how many EASTS");
        for (int easts = 0; easts <= 4; easts++) {
            HandFast h = new HandFast();
            Twin.rich(h);
            Due.is("isle", easts, Due.isle(h, "isle 0 0" + Due.repeat(";east 1", easts)));
            Due.is("the TAPE", 0, h.count(14));
            Due.is("EASTS", easts, h.count(2));
            Due.is("WESTS", 0, h.count(3));
            Due.is("NOTES", 0, h.count(11));
            Due.is("to be UNDONE", 0, h.count(12));
            Due.is("undo", -1, h.undo());
            Due.is("the RULE IN FORCE", 1, h.count(5));
            Due.is("RULES", 2, h.count(4));
            Due.is("x", 4711, h.count(13));
            Due.is("YEAR", 0, h.count(6));
            Due.is("late", 0, h.count(10));
            Due.is("the begin is that of this ISLE", 3, h.ruled(0));
            Due.is("IMAGES stay", 1, h.back(3));
        }
        Due.promise(4, "-2 - its FAULT, and all stays.");
        Consumer<HandFast> noTape = richThen(t -> t.end(0));
        String[] bad = {"", "isle 0 0;east 1;", "isle 0 100", "isle 0 0;isle 0 0", "isle 0 0;east 1;seems 0 0 1 1"};
        int[] faults = {Due.fault(0, 0), Due.fault(16, 0), Due.fault(7, 1), Due.fault(9, 4), Due.fault(24, 1)};
        for (int i = 0; i < bad.length; i++) {
            String text = bad[i];
            Twin.refused("isle: " + text, faults[i], t -> Due.isle(t, text), noTape);
            Twin.refused("isle: " + text, faults[i], t -> Due.isle(t, text), NEW);
        }
    }

    private static void six(HandFast h) {
        Twin.rich(h);
        for (int i = 2; i < 6; i++) Due.rule(h, "stay " + (i - 2));
        h.force(5);
    }

    private static void rule() {
        Due.promise(5, "The TAPE, which is empty then, is a RULE: its number; -2 - its FAULT");
        HandFast h = new HandFast();
        for (int i = 0; i < 6; i++) {
            Due.is("a fault", Due.fault(5, 0), Due.rule(h, "stay " + Due.repeat("?", i + 1)));
            Due.is("the TAPE", 0, h.count(14));
            Due.is("RULES", i, h.count(4));
            Due.is("its number", i, Due.rule(h, "stay 1"));
            Due.is("the TAPE", 0, h.count(14));
            Due.is("RULES", i + 1, h.count(4));
        }
        Consumer<HandFast> noTape = richThen(t -> t.end(0));
        Twin.refused("an empty TAPE", Due.fault(0, 0), t -> Due.rule(t, ""), noTape);
        Twin.refused("stay 1 if year", Due.fault(14, 0), t -> Due.rule(t, "stay 1 if year"), noTape);
        Twin.refused("stay 100000", Due.fault(5, 1), t -> Due.rule(t, "stay 100000"), noTape);
        Due.promise(5, "NONE, and nothing happens: there are 6.");
        Twin.refused("a seventh", -1, HandFast::rule, t -> {
            six(t);
            Due.tape(t, "isle 0 0;late 6");
        });
        Twin.refused("a seventh with a FAULT", -1, HandFast::rule, t -> {
            six(t);
            Due.tape(t, "some");
        });
        Twin.refused("a seventh without a TAPE", -1, HandFast::rule, t -> {
            six(t);
            t.end(0);
        });
    }

    private static void force() {
        Due.promise(6, "A RULE is IN FORCE (NONE: none): which was");
        HandFast h = new HandFast();
        Due.is("none, none was", -1, h.force(-1));
        six(h);
        Due.is("RULE 0, 5 was", 5, h.force(0));
        Due.is("RULE 0 again", 0, h.force(0));
        Due.is("RULE 5", 0, h.force(5));
        Due.is("IN FORCE", 5, h.count(5));
        Due.is("none", 5, h.force(-1));
        Due.is("IN FORCE", -1, h.count(5));
        Due.promise(6, "-2, and nothing happens, if there is none such.");
        refused("force", -2, (t, n) -> t.force(n), -2, 2, 5, 6, LEAST, MOST);
        Twin.refused("force(6) of 6", -2, t -> t.force(6), EdgePromiseTest::six);
        Twin.refused("force(0) of none", -2, t -> t.force(0), NEW);
    }

    /** An answer due without somebody, for every number that is nobody's, on a full side and on an empty one. */
    private static void nobody(String call, int due, ToIntFunction<HandFast> full, ToIntFunction<HandFast> empty) {
        Twin.refused(call, due, full, h -> Due.isle(h, FULL));
        Twin.refused(call + " of an empty side", due, empty, h -> Due.isle(h, "isle 0 0"));
        Twin.refused(call + " without an ISLE", due, empty, NEW);
    }

    private static final String FULL = "isle 9 0;east 1;east 2;east 3;east 4;west 5;west 6;west 7;west 8;seems 3 3 19 18;truly 3 3 17 16;seems 0 0 1 2";

    private static void people() {
        HandFast h = Due.of(FULL);
        h.join(3, 3);
        h.fair();
        Due.promise(7, "Of an EAST what 0: PURSE, 1: to whom they are JOINED (NONE: free), 2: how many YEARS (0 without), 3: JOININGS so far.");
        int[][] east = {{0, 0, 1, 1}, {2, -1, 0, 0}, {3, -1, 0, 0}, {0, 3, 1, 1}};
        int[][] west = {{6, 0, 1, 1}, {6, -1, 0, 0}, {7, -1, 0, 0}, {12, 3, 1, 1}};
        for (int i = 0; i < 16; i++) Due.is("east(" + i / 4 + ", " + i % 4 + ")", east[i / 4][i % 4], h.east(i / 4, i % 4));
        Due.promise(7, "-2 without these.");
        for (int i : new int[] {-1, 4, 5, LEAST, MOST}) {
            nobody("east(" + i + ", 0)", -2, t -> t.east(i, 0), t -> t.east(0, 0));
            nobody("east(0, " + i + ")", -2, t -> t.east(0, i), t -> t.east(-1, i));
        }
        Due.promise(8, "Of a WEST, likewise.");
        for (int i = 0; i < 16; i++) Due.is("west(" + i / 4 + ", " + i % 4 + ")", west[i / 4][i % 4], h.west(i / 4, i % 4));
        for (int i : new int[] {-1, 4, 5, LEAST, MOST}) {
            nobody("west(" + i + ", 0)", -2, t -> t.west(i, 0), t -> t.west(0, 0));
            nobody("west(0, " + i + ")", -2, t -> t.west(0, i), t -> t.west(-1, i));
        }
        HandFast crossed = Due.of("isle 0 0;east 0;east 0;west 0;west 0;west 0;seems 0 2 1 1;seems 1 0 1 1");
        crossed.join(1, 0);
        crossed.fair();
        crossed.part(1);
        crossed.fair();
        int[][] ones = {{1, 1, 2}, {-1, 0, 0}, {0, 2, 1}};
        for (int i = 0; i < 9; i++) Due.is("crossed: west(" + i / 3 + ", " + (1 + i % 3) + ")", ones[i / 3][i % 3], crossed.west(i / 3, 1 + i % 3));
        Due.is("crossed: EASTS JOINED", 3, crossed.count(7));
        Due.is("crossed: WESTS JOINED", 5, crossed.count(8));
        Due.promise(9, "How much they LIKE what 0: the EAST the WEST now, 1: the WEST the EAST now, 2, 3: likewise, truly.");
        int[] likes = {18, 17, 17, 16};
        for (int what = 0; what < 4; what++) Due.is("likes(3, 3, " + what + ")", likes[what], h.likes(3, 3, what));
        Due.is("likes(0, 3, 0)", 0, h.likes(0, 3, 0));
        Due.promise(9, "NONE without these.");
        for (int i : new int[] {-1, 4, 5, LEAST, MOST}) {
            nobody("likes(" + i + ", 0, 0)", -1, t -> t.likes(i, 0, 0), t -> t.likes(0, 0, 0));
            nobody("likes(0, " + i + ", 0)", -1, t -> t.likes(0, i, 0), t -> t.likes(0, 0, 1));
            nobody("likes(3, 3, " + i + ")", -1, t -> t.likes(3, 3, i), t -> t.likes(0, 0, i));
        }
        Twin.refused("a WEST of EASTS alone", -1, t -> t.likes(0, 0, 0), t -> Due.isle(t, "isle 0 0;east 0"));
        Twin.refused("an EAST of WESTS alone", -1, t -> t.likes(0, 0, 0), t -> Due.isle(t, "isle 0 0;west 0"));
    }

    private static void fair() {
        Due.promise(10, "A FAIR: how many are JOINED at it");
        HandFast h = Due.of(FULL);
        Due.is("two pairs", 2, h.fair());
        Due.is("none besides", 0, h.fair());
        Due.promise(10, "NONE, and nothing happens, without an ISLE, or in YEAR 999.");
        Twin.refused("without an ISLE", -1, HandFast::fair, NEW);
        Twin.refused("without an ISLE, gone back to", -1, HandFast::fair, t -> {
            t.image(0);
            Twin.rich(t);
            t.back(0);
        });
        Twin.refused("in YEAR 999", -1, HandFast::fair, richThen(t -> {
            while (t.count(6) < 999) t.fair();
        }));
    }

    private static void join() {
        Due.promise(11, "JOIN: what is given; NONE, and nothing happens, without these.");
        HandFast h = Due.of(FULL);
        Due.is("all they have", 4, h.join(3, 3));
        Consumer<HandFast> full = t -> {
            Due.isle(t, FULL + ";seems 1 0 5 0;seems 0 1 5 0;seems 2 0 0 5;seems 0 2 5 5;seems 2 3 5 5");
            t.join(3, 3);
            t.hold();
        };
        int[][] odd = {{-1, 0}, {4, 0}, {LEAST, 0}, {MOST, 0}, {0, -1}, {0, 4}, {0, LEAST}, {0, MOST},
            {3, 3}, {0, 3}, {2, 3}, {3, 0}, {1, 0}, {0, 1}, {2, 0}, {1, 1}};
        for (int[] o : odd) Twin.refused("join(" + o[0] + ", " + o[1] + ")", -1, t -> t.join(o[0], o[1]), full);
        Twin.refused("join without an ISLE", -1, t -> t.join(0, 0), NEW);
        Twin.refused("join without anybody", -1, t -> t.join(0, 0), t -> Due.isle(t, "isle 0 0"));
    }

    private static void part() {
        Due.promise(12, "PART: what goes back; NONE, and nothing happens, without these.");
        HandFast h = Due.of(FULL);
        h.join(3, 3);
        Due.is("half of 9", 4, h.part(3));
        Consumer<HandFast> full = t -> {
            Due.isle(t, FULL);
            t.join(3, 3);
        };
        for (int east : new int[] {-1, 0, 1, 2, 4, LEAST, MOST}) Twin.refused("part(" + east + ")", -1, t -> t.part(east), full);
        Twin.refused("part without an ISLE", -1, t -> t.part(0), NEW);
    }

    private static void hold() {
        Due.promise(13, "HOLD: how many YEARS are late; NONE, and nothing happens, without these, or an ISLE.");
        HandFast h = Due.of("isle 0 0;late 1;late 60");
        Due.is("YEAR 0, too", 3, h.hold());
        Twin.refused("hold without an ISLE", -1, HandFast::hold, NEW);
        Twin.refused("hold of a YEAR told", -1, HandFast::hold, t -> Due.isle(t, "isle 0 0;late 0"));
        Twin.refused("hold twice", -1, HandFast::hold, t -> {
            Due.isle(t, "isle 0 0");
            t.hold();
        });
        for (int year : new int[] {61, 62, 64, 124, 128}) {
            Twin.refused("hold in YEAR " + year, -1, HandFast::hold, t -> {
                Due.isle(t, "isle 0 0");
                while (t.count(6) < year) t.fair();
            });
        }
    }

    private static void undo() {
        Due.promise(14, "The last ACT is UNDONE: how many more can be; NONE, and nothing happens: none can.");
        HandFast h = Due.of(FULL);
        for (int i = 0; i < 22; i++) h.fair();
        for (int i = 19; i >= 0; i--) Due.is("undo", i, h.undo());
        Due.is("none can", -1, h.undo());
        Due.is("YEAR", 2, h.count(6));
        Twin.refused("undo of a new object", -1, HandFast::undo, NEW);
        Twin.refused("undo of a new ISLE", -1, HandFast::undo, richThen(t -> Due.isle(t, FULL)));
        Twin.refused("undo behind an IMAGE", -1, HandFast::undo, richThen(t -> t.back(3)));
        Twin.refused("undo behind all", -1, HandFast::undo, richThen(t -> {
            while (t.count(12) > 0) t.undo();
        }));
    }

    private static void ahead() {
        Due.promise(15, "AHEAD what 0: to whom (NONE: free), 1: how much, 2: PURSE of the EAST, 3: PURSE of the WEST of that number. -2 without these.");
        HandFast h = Due.of(FULL);
        int[] now = {-1, 0, 4, 8};
        int[] one = {3, 18, 0, 12};
        for (int what = 0; what < 4; what++) {
            Due.is("ahead(3, 0, " + what + ")", now[what], h.ahead(3, 0, what));
            Due.is("ahead(3, 1, " + what + ")", one[what], h.ahead(3, 1, what));
        }
        for (int what = 0; what < 4; what++) {
            int w = what;
            for (int i : new int[] {-1, 4, LEAST, MOST}) nobody("ahead(" + i + ", 1, " + what + ")", -2, t -> t.ahead(i, 1, w), t -> t.ahead(0, 1, w));
            for (int n : new int[] {-1, 61, LEAST, MOST}) nobody("ahead(0, " + n + ", " + what + ")", -2, t -> t.ahead(0, n, w), t -> t.ahead(0, n, w));
        }
        for (int what : new int[] {-1, 4, LEAST, MOST}) nobody("ahead(0, 1, " + what + ")", -2, t -> t.ahead(0, 1, what), t -> t.ahead(0, 0, what));
        HandFast west = Due.of("isle 0 0;west 9;west 8");
        Due.is("WEST 1 of no EASTS", 8, west.ahead(1, 1, 3));
        Due.is("EAST 0", -2, west.ahead(0, 1, 2));
        HandFast east = Due.of("isle 0 0;east 9;east 8");
        Due.is("EAST 1 of no WESTS", 8, east.ahead(1, 1, 2));
        Due.is("WEST 0", -2, east.ahead(0, 1, 3));
    }

    private static void lasts() {
        Due.promise(16, "LASTS; -2: at none of these; NONE without these.");
        HandFast h = Due.of(FULL);
        h.join(3, 3);
        Due.is("at none", -2, h.lasts(3));
        Due.is("free", -1, h.lasts(0));
        Due.rule(h, "stay 0");
        h.force(0);
        Due.is("at the next", 0, h.lasts(3));
        for (int i : new int[] {-1, 0, 4, LEAST, MOST}) nobody("lasts(" + i + ")", -1, t -> t.lasts(i), t -> t.lasts(0));
    }

    private static void settled() {
        Due.promise(17, "SETTLED what 0: how many, 1 to 4: whom the EAST less 1 has in the first (NONE: nobody; -2: there is none such, or they are not free), "
            + "5: how much the best is liked.");
        HandFast h = Due.of(FULL);
        int[] due = {1, 0, -1, -1, 3, 40};
        for (int what = 0; what < 6; what++) Due.is("settled(" + what + ")", due[what], h.settled(what));
        h.join(3, 3);
        Due.is("EAST 3 is not free", -2, h.settled(4));
        Due.is("how much then", 3, h.settled(5));
        Due.is("there is no EAST 2", -2, Due.of("isle 0 0;east 0;east 0").settled(3));
        Due.is("there is no EAST 0", -2, Due.of("isle 0 0").settled(1));
        Due.promise(17, "-3 for others, or without an ISLE.");
        refused("settled", -3, (t, n) -> t.settled(n), -1, 6, LEAST, MOST);
        for (int what = -1; what < 7; what++) {
            int w = what;
            Twin.refused("settled(" + what + ") without an ISLE", -3, t -> t.settled(w), NEW);
        }
    }

    private static void tries() {
        Due.promise(18, "TRY what 0: whom (NONE: nobody), 1: how much. -2 without these.");
        HandFast h = Due.of(FULL + ";late 0");
        Due.is("whom", 3, h.tries(3, 1, 0));
        Due.is("how much", 18, h.tries(3, 1, 1));
        Due.is("nobody", -1, h.tries(2, 30, 0));
        Due.is("nothing", 0, h.tries(2, 30, 1));
        for (int i : new int[] {-1, 4, LEAST, MOST}) {
            nobody("tries(" + i + ", 1, 0)", -2, t -> t.tries(i, 1, 0), t -> t.tries(0, 1, 0));
            nobody("tries(3, 1, " + i + ")", -2, t -> t.tries(3, 1, i), t -> t.tries(0, 1, 1));
        }
        for (int n : new int[] {-1, 0, 31, LEAST, MOST}) nobody("tries(3, " + n + ", 0)", -2, t -> t.tries(3, n, 0), t -> t.tries(0, n, 0));
        Due.is("what 2", -2, h.tries(3, 1, 2));
        h.join(3, 3);
        Due.is("not free", -2, h.tries(3, 1, 0));
    }

    private static void liked() {
        Due.promise(19, "LIKED what 0: who (-2: there are none), 1: how much (-2 likewise). NONE for others, or without an ISLE.");
        HandFast h = Due.of(FULL);
        Due.is("who", 3, h.liked(0));
        Due.is("how much", 16, h.liked(1));
        HandFast west = Due.of("isle 0 0;west 0");
        Due.is("there are none", -2, west.liked(0));
        Due.is("there are none", -2, west.liked(1));
        refused("liked", -1, (t, n) -> t.liked(n), -1, 2, LEAST, MOST);
        for (int what = -1; what < 3; what++) {
            int w = what;
            Twin.refused("liked(" + what + ") without an ISLE", -1, t -> t.liked(w), NEW);
        }
        Due.is("others without EASTS", -1, west.liked(2));
    }

    private static void doors() {
        Due.promise(20, "DOORS what 0: how many, 1: the first (-2: there is none). NONE without these.");
        HandFast h = Due.of(FULL);
        h.join(3, 3);
        Due.is("how many", 2, h.doors(3, 0));
        Due.is("the first", 0, h.doors(3, 1));
        Due.is("free", -1, h.doors(0, 0));
        Due.is("what 2", -1, h.doors(3, 2));
        Due.is("what -1", -1, h.doors(3, -1));
        for (int i : new int[] {-1, 0, 4, LEAST, MOST}) nobody("doors(" + i + ", 0)", -1, t -> t.doors(i, 0), t -> t.doors(0, 1));
        refused("doors of what", -1, (t, n) -> t.doors(0, n), -1, 2, LEAST, MOST);
    }

    private static void keep() {
        Due.promise(21, "KEEP; -2: by none; NONE without these.");
        HandFast h = Due.of(FULL);
        h.join(3, 3);
        Due.is("by any", 0, h.keep(3, 30));
        Due.rule(h, "stay 0");
        h.force(0);
        Due.is("by none", -2, h.keep(3, 1));
        Due.is("free", -1, h.keep(0, 1));
        for (int i : new int[] {-1, 0, 4, LEAST, MOST}) nobody("keep(" + i + ", 1)", -1, t -> t.keep(i, 1), t -> t.keep(0, 1));
        refused("keep for", -1, (t, n) -> t.keep(0, n), -1, 0, 31, LEAST, MOST);
    }

    private static void note() {
        Due.promise(22, "A NOTE (n NONE: there are none then, 0): how many");
        HandFast h = new HandFast();
        Due.is("none without an ISLE", 0, h.note(-1, 0, 0));
        Due.isle(h, FULL);
        Due.is("none of none", 0, h.note(-1, 0, 0));
        for (int i = 1; i <= 10; i++) Due.is("note " + i, i, h.note(30, 3, i % 5 - 1));
        Due.is("NOTES", 10, h.count(11));
        Due.is("none then, whoever is told", 0, h.note(-1, MOST, LEAST));
        Due.is("NOTES", 0, h.count(11));
        Due.is("RULED by none of them", 1, h.ruled(0));
        Due.is("the first", 1, h.note(0, 0, -1));
        Due.promise(22, "-2, and nothing happens, without these (WEST NONE: nobody), or if there are 10.");
        refused("note behind", -2, (t, n) -> t.note(n, 0, 0), -2, 31, LEAST, MOST);
        refused("note of EAST", -2, (t, n) -> t.note(0, n, 0), -1, 3, LEAST, MOST);
        refused("note of WEST", -2, (t, n) -> t.note(0, 0, n), -2, 3, LEAST, MOST);
        Twin.refused("an eleventh", -2, t -> t.note(0, 0, 0), richThen(t -> {
            while (t.count(11) < 10) t.note(1, 1, 0);
        }));
        Twin.refused("note without an ISLE", -2, t -> t.note(0, 0, 0), NEW);
        Twin.refused("note of nobody without an ISLE", -2, t -> t.note(0, 0, -1), NEW);
    }

    private static void ruled() {
        Due.promise(23, "RULED what 0: how many, 1: the first (NONE: none; -2: there is none such).");
        HandFast h = Due.of(FULL);
        Due.rule(h, "stay 0");
        Due.is("all", 2, h.ruled(0));
        Due.is("none", -1, h.ruled(1));
        h.note(1, 3, -1);
        Due.is("one", 1, h.ruled(0));
        Due.is("RULE 0", 0, h.ruled(1));
        h.note(1, 3, 3);
        Due.is("there is none such", 0, h.ruled(0));
        Due.is("there is none such", -2, h.ruled(1));
        Due.promise(23, "-3 for others, or without an ISLE.");
        refused("ruled", -3, (t, n) -> t.ruled(n), -1, 2, LEAST, MOST);
        for (int what = -1; what < 3; what++) {
            int w = what;
            Twin.refused("ruled(" + what + ") without an ISLE", -3, t -> t.ruled(w), NEW);
        }
    }

    private static void boats() {
        Due.promise(24, "BOATS what 0: how many, 1: the least (-2: there is none), 2: in all of them. -3 without these, or an ISLE.");
        HandFast h = Due.of(FULL);
        h.note(0, 3, -1);
        int[] due = {128, 1, 1};
        for (int what = 0; what < 3; what++) Due.is("boats(-1, " + what + ")", due[what], h.boats(-1, what));
        h.note(0, 3, 0);
        int[] none = {0, -2, 0};
        for (int what = 0; what < 3; what++) Due.is("boats(-1, " + what + ")", none[what], h.boats(-1, what));
        refused("boats by", -3, (t, n) -> t.boats(n, 0), -2, 2, 6, LEAST, MOST);
        refused("boats of what", -3, (t, n) -> t.boats(0, n), -1, 3, LEAST, MOST);
        for (int what = -1; what < 4; what++) {
            int w = what;
            Twin.refused("boats(-1, " + what + ") without an ISLE", -3, t -> t.boats(-1, w), NEW);
        }
    }

    private static void look() {
        Due.promise(25, "LOOK (n 0 to 30) what 0: the EAST, 1: how many; -2: no RULE is so, or there are no EASTS. NONE without these, or an ISLE.");
        HandFast h = Due.of(FULL);
        for (int n : new int[] {0, 30}) {
            Due.is("look(" + n + ", 0)", 0, h.look(n, 0));
            Due.is("look(" + n + ", 1)", 1, h.look(n, 1));
        }
        h.note(0, 1, 1);
        Due.is("no RULE is so", -2, h.look(0, 0));
        Due.is("no RULE is so", -2, h.look(30, 1));
        Due.is("no EASTS", -2, Due.of("isle 0 0").look(0, 0));
        Due.is("no EASTS", -2, Due.of("isle 0 0;west 0").look(30, 1));
        refused("look behind", -1, (t, n) -> t.look(n, 0), -1, 31, LEAST, MOST);
        refused("look at what", -1, (t, n) -> t.look(0, n), -1, 2, LEAST, MOST);
        for (int what = -1; what < 3; what++) {
            int w = what;
            Twin.refused("look(0, " + what + ") without an ISLE", -1, t -> t.look(0, w), NEW);
        }
    }

    private static void seed() {
        Due.promise(26, "x becomes a number: what it was; NONE, and nothing happens, below 0.");
        HandFast h = new HandFast();
        Due.is("the most, 0 was", 0, h.seed(MOST));
        Due.is("x", MOST, h.count(13));
        Due.is("the least", MOST, h.seed(0));
        Due.is("x", 0, h.count(13));
        Due.is("1", 0, h.seed(1));
        refused("seed", -1, (t, n) -> t.seed(n), -1, -2, LEAST);
        Twin.refused("seed(-1) of a new object", -1, t -> t.seed(-1), NEW);
    }

    private static void isles() {
        Due.promise(27, "ISLES what 0: how many are JOINED, 1: how often. NONE without these, or an ISLE.");
        HandFast h = Due.of(FULL);
        Due.is("how many", 20, h.isles(10, 30, 0, 0));
        Due.is("how often", 20, h.isles(10, 30, 0, 1));
        refused("isles, m", -1, (t, n) -> t.isles(n, 1, 0, 0), -1, 0, 11, LEAST, MOST);
        refused("isles, n", -1, (t, n) -> t.isles(1, n, 0, 0), -1, 0, 31, LEAST, MOST);
        refused("isles, p", -1, (t, n) -> t.isles(1, 1, n, 0), -1, 101, LEAST, MOST);
        refused("isles, what", -1, (t, n) -> t.isles(1, 1, 0, n), -1, 2, LEAST, MOST);
        Twin.refused("isles without an ISLE", -1, t -> t.isles(1, 1, 0, 0), NEW);
        Twin.refused("isles without an ISLE", -1, t -> t.isles(10, 30, 100, 1), NEW);
    }

    private static void count() {
        Due.promise(28, "What 0: GIFT, 1: STAY, 2: EASTS, 3: WESTS, 4: RULES, 5: the RULE IN FORCE (NONE), 6: YEAR, 7: EASTS that are JOINED, as bits, "
            + "8: WESTS that are, as bits, 9: 1 if the boat of this YEAR is late, else 0, 10: YEARS that are late, 11: NOTES, "
            + "12: ACTS that can be UNDONE, 13: x, 14: bytes of the TAPE.");
        HandFast h = Due.of("isle 99 20;east 0;east 0;east 0;west 0;west 0;west 0;west 0;seems 2 3 20 20;seems 1 0 20 20;late 1");
        Due.rule(h, "stay 1");
        h.fair();
        h.force(0);
        h.seed(MOST);
        for (int i = 0; i < 10; i++) h.note(i, 0, -1);
        Due.tape(h, Due.repeat("?", 400));
        int[] due = {99, 20, 3, 4, 1, 0, 1, 6, 9, 1, 1, 10, 1, MOST, 400};
        for (int what = 0; what < 15; what++) Due.is("count(" + what + ")", due[what], h.count(what));
        Due.promise(28, "NONE for others.");
        refused("count", -1, (t, n) -> t.count(n), -1, -2, 15, 16, LEAST, MOST);
    }

    private static void images() {
        Due.promise(29, "An IMAGE is made: YEAR; NONE without it.");
        HandFast h = Due.of(FULL);
        for (int k = 0; k < 4; k++) {
            Due.is("image(" + k + ")", k, h.image(k));
            h.fair();
        }
        refused("image", -1, (t, n) -> t.image(n), -1, 4, LEAST, MOST);
        Twin.refused("image(4) without an ISLE", -1, t -> t.image(4), NEW);
        Due.promise(30, "All is as in an IMAGE: YEAR; NONE, and nothing happens, if it was never made, or without it.");
        for (int k = 0; k < 4; k++) {
            Due.is("back(" + k + ")", k, h.back(k));
            Due.is("YEAR", k, h.count(6));
        }
        refused("back", -1, (t, n) -> t.back(n), 0, 2, -1, 4, LEAST, MOST);
        for (int k = -1; k < 5; k++) {
            int image = k;
            Twin.refused("back(" + k + ") of a new object", -1, t -> t.back(image), NEW);
        }
        Twin.refused("back(0), another IMAGE is made", -1, t -> t.back(0), t -> t.image(1));
    }

    private static void nothingChanges() {
        Due.terms("(By what is asked nothing changes;");
        for (int what = 0; what < 6; what++) {
            int w = what;
            Twin.asked("settled(" + w + ")", h -> h.settled(w));
            for (int i = 0; i < 3; i++) {
                int who = i;
                Twin.asked("ahead(" + i + ", 9, " + w + ")", h -> h.ahead(who, 9, w));
                if (w < 2) {
                    Twin.asked("tries(" + i + ", 9, " + w + ")", h -> h.tries(who, 9, w));
                    Twin.asked("doors(" + i + ", " + w + ")", h -> h.doors(who, w));
                }
            }
            if (w < 2) {
                Twin.asked("liked(" + w + ")", h -> h.liked(w));
                Twin.asked("ruled(" + w + ")", h -> h.ruled(w));
                Twin.asked("look(7, " + w + ")", h -> h.look(7, w));
                Twin.asked("isles(3, 9, 40, " + w + ")", h -> h.isles(3, 9, 40, w));
            }
            if (w < 3) Twin.asked("boats(1, " + w + ")", h -> h.boats(1, w));
        }
        for (int i = 0; i < 3; i++) {
            int who = i;
            Twin.asked("lasts(" + i + ")", h -> h.lasts(who));
            Twin.asked("keep(" + i + ", 9)", h -> h.keep(who, 9));
            for (int what = 0; what < 4; what++) {
                int w = what;
                Twin.asked("east(" + i + ", " + w + ")", h -> h.east(who, w));
                Twin.asked("west(" + i + ", " + w + ")", h -> h.west(who, w));
                Twin.asked("likes(" + i + ", 1, " + w + ")", h -> h.likes(who, 1, w));
            }
        }
        for (int what = 0; what < 15; what++) {
            int w = what;
            Twin.asked("count(" + w + ")", h -> h.count(w));
        }
    }

    public static void main(String[] args) {
        newObject();
        feed();
        end();
        isle();
        rule();
        force();
        people();
        fair();
        join();
        part();
        hold();
        undo();
        ahead();
        lasts();
        settled();
        tries();
        liked();
        doors();
        keep();
        note();
        ruled();
        boats();
        look();
        seed();
        isles();
        count();
        images();
        nothingChanges();
        Due.allPromises();
        Due.finish();
    }
}
