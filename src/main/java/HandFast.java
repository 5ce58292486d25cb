/**
 * An isle whose people join hands for a year and a day: told in a text, led on by hand, and asked
 * about. The document's promises say what each call answers; nothing here ever throws.
 */
public final class HandFast {
    public static final int NONE = -1;

    private static final int SIDE = 4;
    private static final int PAIRS = SIDE * SIDE;
    private static final int EAST = 0;
    private static final int WEST = 1;
    private static final int TAPE_MOST = 400;
    private static final int RULES_MOST = 6;
    private static final int IMAGES_MOST = 4;
    private static final int NOTES_MOST = 10;
    private static final int ACTS_MOST = 20;
    private static final int LATE_MOST = 60;
    private static final int YEAR_MOST = 999;
    private static final int PURSE_MOST = 9999;
    private static final int GIFT_MOST = 99;
    private static final int LIKE_MOST = 20;
    private static final int FAIRS_AHEAD = 60;
    private static final int FAIRS_MOST = 30;

    private final Tape tape = new Tape();
    private final IsleReader isleReader = new IsleReader(tape);
    private final RuleReader ruleReader = new RuleReader(tape);
    private final Rule[] rules = new Rule[RULES_MOST];
    private int ruleCount = 0;
    private final World world = new World();
    private final World[] images = new World[IMAGES_MOST];
    private final State[] past = new State[ACTS_MOST];
    private int pastNext = 0;
    private int pastSize = 0;
    private final State draft = new State();
    private final Fair hall = new Fair();
    private final Foresight foresight = new Foresight(hall);
    private final Settling settling = new Settling();
    private final Riddle riddle = new Riddle(hall);

    public HandFast() {
        for (int i = 0; i < RULES_MOST; i++) {
            rules[i] = new Rule();
        }
        for (int i = 0; i < IMAGES_MOST; i++) {
            images[i] = new World();
        }
        for (int i = 0; i < ACTS_MOST; i++) {
            past[i] = new State();
        }
    }

    // ---- the tape and the texts ----

    public int feed(int a, int b, int c, int d, int e) {
        if (tape.length + 20 > TAPE_MOST) {
            return NONE;
        }
        tape.append(a);
        tape.append(b);
        tape.append(c);
        tape.append(d);
        tape.append(e);
        return tape.length;
    }

    public int end(int n) {
        if (n < 0 || n > tape.length) {
            return NONE;
        }
        tape.length = n;
        return n;
    }

    public int isle() {
        int fault = isleReader.readInto(draft);
        tape.length = 0;
        if (fault != 0) {
            return -2 - fault;
        }
        world.begin.copyFrom(draft);
        world.now.copyFrom(draft);
        world.notes = 0;
        pastSize = 0;
        return draft.easts;
    }

    public int rule() {
        if (ruleCount >= RULES_MOST) {
            return NONE;
        }
        int fault = ruleReader.readInto(rules[ruleCount]);
        tape.length = 0;
        if (fault != 0) {
            return -2 - fault;
        }
        ruleCount++;
        return ruleCount - 1;
    }

    public int force(int rule) {
        if (!isRuleOrNone(rule)) {
            return -2;
        }
        int was = world.force;
        world.force = rule;
        return was;
    }

    private boolean isRuleOrNone(int rule) {
        return rule >= NONE && rule < ruleCount;
    }

    /** The rule of a number, null for NONE. */
    private Rule ruleOf(int rule) {
        return rule >= 0 && rule < ruleCount ? rules[rule] : null;
    }

    private Rule ruleInForce() {
        return ruleOf(world.force);
    }

    // ---- how things are ----

    public int east(int east, int what) {
        return world.now.hasEast(east) ? world.now.fact(EAST, east, what) : -2;
    }

    public int west(int west, int what) {
        return world.now.hasWest(west) ? world.now.fact(WEST, west, what) : -2;
    }

    public int likes(int east, int west, int what) {
        State now = world.now;
        if (!now.hasEast(east) || !now.hasWest(west)) {
            return NONE;
        }
        switch (what) {
            case 0: return now.like(EAST, east, west);
            case 1: return now.like(WEST, east, west);
            case 2: return now.trueLike(EAST, east, west);
            case 3: return now.trueLike(WEST, east, west);
            default: return NONE;
        }
    }

    public int count(int what) {
        State now = world.now;
        switch (what) {
            case 0: return now.gift;
            case 1: return now.stay;
            case 2: return now.easts;
            case 3: return now.wests;
            case 4: return ruleCount;
            case 5: return world.force;
            case 6: return now.year;
            case 7: return now.joinedBits(EAST, now.easts);
            case 8: return now.joinedBits(WEST, now.wests);
            case 9: return now.isLate() ? 1 : 0;
            case 10: return Long.bitCount(now.late);
            case 11: return world.notes;
            case 12: return pastSize;
            case 13: return world.x;
            case 14: return tape.length;
            default: return NONE;
        }
    }

    // ---- acts ----

    public int fair() {
        State now = world.now;
        if (!now.there || now.year >= YEAR_MOST) {
            return NONE;
        }
        remember();
        return hall.pass(now, ruleInForce(), now.isLate());
    }

    public int join(int east, int west) {
        State now = world.now;
        if (!now.hasEast(east) || !now.hasWest(west) || !now.couldJoin(east, west)) {
            return NONE;
        }
        remember();
        return now.joinTwo(east, west);
    }

    public int part(int east) {
        State now = world.now;
        if (!now.isJoinedEast(east)) {
            return NONE;
        }
        remember();
        return now.partTwo(east);
    }

    public int hold() {
        State now = world.now;
        if (!now.there || now.year > LATE_MOST || now.isLate()) {
            return NONE;
        }
        remember();
        now.late |= 1L << now.year;
        return Long.bitCount(now.late);
    }

    public int undo() {
        if (pastSize == 0) {
            return NONE;
        }
        pastNext = (pastNext + ACTS_MOST - 1) % ACTS_MOST;
        pastSize--;
        world.now.copyFrom(past[pastNext]);
        return pastSize;
    }

    /** Keeps how things are ahead of an act, in place of the oldest of twenty. */
    private void remember() {
        past[pastNext].copyFrom(world.now);
        pastNext = (pastNext + 1) % ACTS_MOST;
        pastSize = Math.min(pastSize + 1, ACTS_MOST);
    }

    // ---- what is asked from now on ----

    public int ahead(int number, int n, int what) {
        State now = world.now;
        boolean known = what == 3 ? now.hasWest(number) : now.hasEast(number);
        if (!known || n < 0 || n > FAIRS_AHEAD || what < 0 || what > 3) {
            return -2;
        }
        State then = foresight.after(now, ruleInForce(), n);
        switch (what) {
            case 0: return then.partnerOf(EAST, number);
            case 1: return then.likeOfPartner(number);
            case 2: return then.purseOf(EAST, number);
            default: return then.purseOf(WEST, number);
        }
    }

    public int lasts(int east) {
        if (!world.now.isJoinedEast(east)) {
            return NONE;
        }
        int fairs = foresight.fairsTogether(world.now, ruleInForce(), east, FAIRS_AHEAD);
        return fairs == FAIRS_AHEAD ? -2 : world.now.year + fairs;
    }

    public int settled(int what) {
        State now = world.now;
        if (!now.there || what < 0 || what > 5) {
            return -3;
        }
        if (what >= 1 && what <= 4 && !now.isFreeEast(what - 1)) {
            return -2;
        }
        settling.search(now);
        switch (what) {
            case 0: return settling.found;
            case 5: return settling.best;
            default: return settling.first[what - 1];
        }
    }

    public int tries(int east, int n, int what) {
        if (!world.now.isFreeEast(east) || n < 1 || n > FAIRS_MOST || what < 0 || what > 1) {
            return -2;
        }
        foresight.tryAll(world.now, ruleInForce(), east, n);
        return what == 0 ? foresight.bestTry : foresight.bestSum;
    }

    public int liked(int what) {
        State now = world.now;
        if (!now.there || what < 0 || what > 1) {
            return NONE;
        }
        int best = -2;
        int most = -2;
        for (int east = 0; east < now.easts; east++) {
            int sum = 0;
            for (int west = 0; west < now.wests; west++) {
                sum += now.trueLike(WEST, east, west);
            }
            if (sum > most) {
                best = east;
                most = sum;
            }
        }
        return what == 0 ? best : most;
    }

    public int doors(int east, int what) {
        if (!world.now.isJoinedEast(east) || what < 0 || what > 1) {
            return NONE;
        }
        int even = 0;
        int first = -2;
        for (int doors = 3; doors >= 0; doors--) {
            if (neitherWouldChange(east, doors >> 1, doors & 1)) {
                even++;
                first = doors;
            }
        }
        return what == 0 ? even : first;
    }

    /** The doors of the two are 0 to stay, 1 to part. */
    private boolean neitherWouldChange(int east, int eastDoor, int westDoor) {
        return doorValue(EAST, east, 1 - eastDoor, westDoor) <= doorValue(EAST, east, eastDoor, westDoor)
            && doorValue(WEST, east, 1 - westDoor, eastDoor) <= doorValue(WEST, east, westDoor, eastDoor);
    }

    /** What the one of a side has by a door of their own, given the other one's. */
    private int doorValue(int side, int east, int own, int other) {
        State now = world.now;
        if (own == 1) {
            return other == 0 ? now.stay : now.stay / 2;
        }
        if (other == 1) {
            return now.gift / 2 - 10;
        }
        int west = now.partnerOf(EAST, east);
        return west < 0 ? 0 : now.like(side, east, west) - now.years[east];
    }

    public int keep(int east, int n) {
        if (!world.now.isJoinedEast(east) || n < 1 || n > FAIRS_MOST) {
            return NONE;
        }
        return foresight.leastGift(world.now, ruleInForce(), east, n);
    }

    // ---- notes, and what follows from them ----

    public int note(int n, int east, int west) {
        if (n == NONE) {
            world.notes = 0;
            return 0;
        }
        boolean known = world.now.hasEast(east) && (west == NONE || world.now.hasWest(west));
        if (!known || n < 0 || n > FAIRS_MOST || world.notes >= NOTES_MOST) {
            return -2;
        }
        world.addNote(n, east, west);
        return world.notes;
    }

    public int ruled(int what) {
        if (!world.now.there || what < 0 || what > 1) {
            return -3;
        }
        int found = 0;
        int first = -2;
        for (int rule = ruleCount - 1; rule >= NONE; rule--) {
            if (riddle.fits(world, ruleOf(rule))) {
                found++;
                first = rule;
            }
        }
        return what == 0 ? found : first;
    }

    public int boats(int rule, int what) {
        if (!world.now.there || !isRuleOrNone(rule) || what < 0 || what > 2) {
            return -3;
        }
        riddle.searchBoats(world, ruleOf(rule));
        switch (what) {
            case 0: return riddle.sets;
            case 1: return riddle.leastSet;
            default: return riddle.inAll;
        }
    }

    public int look(int n, int what) {
        if (!world.now.there || n < 0 || n > FAIRS_MOST || what < 0 || what > 1) {
            return NONE;
        }
        riddle.startLook();
        for (int rule = NONE; rule < ruleCount; rule++) {
            riddle.addToLook(world, ruleOf(rule), n);
        }
        riddle.chooseLook(world.now.easts);
        return what == 0 ? riddle.lookAt : riddle.mostAlike;
    }

    // ---- drawn boats ----

    public int seed(int x) {
        if (x < 0) {
            return NONE;
        }
        int was = world.x;
        world.x = x;
        return was;
    }

    public int isles(int m, int n, int p, int what) {
        boolean known = m >= 1 && m <= 10 && n >= 1 && n <= FAIRS_MOST && p >= 0 && p <= 100;
        if (!world.now.there || !known || what < 0 || what > 1) {
            return NONE;
        }
        foresight.startDraws(world.x);
        for (int i = 0; i < m; i++) {
            foresight.drawIsle(world.now, ruleInForce(), n, p);
        }
        return what == 0 ? foresight.joinedThen : foresight.joinedOften;
    }

    // ---- images ----

    public int image(int k) {
        if (k < 0 || k >= IMAGES_MOST) {
            return NONE;
        }
        images[k].copyFrom(world);
        images[k].made = true;
        return world.now.year;
    }

    public int back(int k) {
        if (k < 0 || k >= IMAGES_MOST || !images[k].made) {
            return NONE;
        }
        world.copyFrom(images[k]);
        pastSize = 0;
        return world.now.year;
    }

    /** The bytes fed, and a reader's place and first fault in them. */
    private static final class Tape {
        static final int END = -1;
        static final int MISPLACED = 0;
        static final int NOT_AS_TOLD = 1;
        static final int TOO_DEEP = 2;
        static final int TOO_MANY_VALUES = 3;
        static final int TOO_MANY_CLAUSES = 4;
        static final int DIGITS_MOST = 5;
        static final int NUMBER_MOST = 99999;

        private final byte[] bytes = new byte[TAPE_MOST];
        int length = 0;
        int place = 0;
        int fault = 0;

        void append(int four) {
            for (int shift = 24; shift >= 0 && length < TAPE_MOST; shift -= 8) {
                bytes[length] = (byte) (four >> shift);
                length++;
            }
        }

        void rewind() {
            place = 0;
            fault = 0;
        }

        /** Readers go along the text, so that the first fault told is the first along it. */
        void blame(int at, int kind) {
            if (fault == 0) {
                fault = 1 + 8 * at + kind;
            }
        }

        private int byteAt(int at) {
            return at >= 0 && at < length ? bytes[at] & 255 : END;
        }

        /** Goes past blanks: the place of what comes next. */
        int seek() {
            while (place < length && bytes[place] == ' ') {
                place++;
            }
            return place;
        }

        /** The byte that comes next, END behind the last. */
        int next() {
            return byteAt(seek());
        }

        boolean takeSign(char sign) {
            if (next() != sign) {
                return false;
            }
            place++;
            return true;
        }

        /** Like takeSign, but no blank may stand ahead of it. */
        boolean takeSignAtOnce(char sign) {
            if (byteAt(place) != sign) {
                return false;
            }
            place++;
            return true;
        }

        boolean isDigitHere() {
            return isDigit(byteAt(place));
        }

        private boolean isDigit(int sign) {
            return sign >= '0' && sign <= '9';
        }

        private boolean isLetter(int sign) {
            return sign >= 'a' && sign <= 'z';
        }

        int takeNumber(int most) {
            int start = seek();
            int value = 0;
            while (place < length && isDigit(byteAt(place))) {
                if (place - start < DIGITS_MOST) {
                    value = value * 10 + byteAt(place) - '0';
                }
                place++;
            }
            if (place == start) {
                blame(start, MISPLACED);
            } else if (place - start > DIGITS_MOST || value > most) {
                blame(start, NOT_AS_TOLD);
            }
            return fault == 0 ? value : 0;
        }

        /** Takes the word that comes next if it is in the table: its number there, else NONE. */
        int takeWord(String table) {
            int start = seek();
            int stop = start;
            while (stop < length && isLetter(byteAt(stop))) {
                stop++;
            }
            int number = 0;
            int at = start;
            boolean isSame = true;
            for (int i = 0; i <= table.length(); i++) {
                if (i < table.length() && table.charAt(i) != ' ') {
                    isSame = isSame && byteAt(at) == table.charAt(i);
                    at++;
                } else if (isSame && at == stop) {
                    place = stop;
                    return number;
                } else {
                    number++;
                    at = start;
                    isSame = true;
                }
            }
            return NONE;
        }
    }

    /** Reads the text of an isle. */
    private static final class IsleReader {
        static final String CLAUSES = "isle east west seems truly late";
        static final int ISLE = 0;
        static final int ONE_EAST = 1;
        static final int ONE_WEST = 2;
        static final int SEEMS = 3;
        static final int TRULY = 4;
        static final int CLAUSES_MOST = 40;
        static final int START_PURSE_MOST = 999;

        private final Tape tape;

        IsleReader(Tape tape) {
            this.tape = tape;
        }

        /** The fault, 0 without; the draft is whole only without one. */
        int readInto(State draft) {
            draft.clear();
            tape.rewind();
            boolean more = true;
            for (int clause = 0; more && clause <= CLAUSES_MOST; clause++) {
                readClause(draft, clause);
                more = tape.fault == 0 && tape.takeSign(';');
            }
            if (tape.next() != Tape.END) {
                tape.blame(tape.place, Tape.MISPLACED);
            }
            draft.there = true;
            draft.fillUntoldTruth();
            return tape.fault;
        }

        private void readClause(State draft, int clause) {
            int at = tape.seek();
            int kind = tape.takeWord(CLAUSES);
            if (kind == NONE) {
                tape.blame(at, Tape.MISPLACED);
            } else if (isTooMany(draft, clause, kind)) {
                tape.blame(at, Tape.TOO_MANY_CLAUSES);
            } else {
                readNumbers(draft, kind);
            }
        }

        private boolean isTooMany(State draft, int clause, int kind) {
            return clause >= CLAUSES_MOST
                || (kind == ISLE) != (clause == 0)
                || kind == ONE_EAST && draft.easts >= SIDE
                || kind == ONE_WEST && draft.wests >= SIDE;
        }

        private void readNumbers(State draft, int kind) {
            switch (kind) {
                case ISLE:
                    draft.gift = tape.takeNumber(GIFT_MOST);
                    draft.stay = tape.takeNumber(LIKE_MOST);
                    break;
                case ONE_EAST:
                    draft.addEast(tape.takeNumber(START_PURSE_MOST));
                    break;
                case ONE_WEST:
                    draft.addWest(tape.takeNumber(START_PURSE_MOST));
                    break;
                case SEEMS:
                    readLikes(draft, draft.likes);
                    break;
                case TRULY:
                    readLikes(draft, draft.truly);
                    break;
                default:
                    draft.late |= 1L << tape.takeNumber(LATE_MOST);
                    break;
            }
        }

        private void readLikes(State draft, int[] table) {
            int east = tape.takeNumber(draft.easts - 1);
            int west = tape.takeNumber(draft.wests - 1);
            int ofEast = tape.takeNumber(LIKE_MOST);
            int ofWest = tape.takeNumber(LIKE_MOST);
            if (tape.fault == 0) {
                table[State.cell(EAST, east, west)] = ofEast;
                table[State.cell(WEST, east, west)] = ofWest;
            }
        }
    }

    /** A rule, its sums and tests as steps for a stack. */
    private static final class Rule {
        static final int CLAUSES_MOST = 12;
        static final int KIND_BITS = 4;
        static final int NUMBER = 0;
        static final int WORD = 1;
        static final int PLUS = 2;
        static final int MINUS = 3;
        static final int TIMES = 4;
        static final int DIVIDED = 5;
        static final int REST = 6;
        static final int LESS = 7;
        static final int NOT_MORE = 8;
        static final int EQUAL = 9;
        static final int NOT_LESS = 10;
        static final int MORE = 11;
        static final int AND = 12;
        static final int OR = 13;
        static final int NOT = 14;

        // 60 values and facts, fewer signs and words between them, and nots, of three bytes each: below 220
        static final int STEPS_MOST = 256;

        final int[] steps = new int[STEPS_MOST];
        final int[] sumStart = new int[CLAUSES_MOST];
        final int[] testStart = new int[CLAUSES_MOST];
        final int[] testEnd = new int[CLAUSES_MOST];
        int size = 0;
        int clauses = 0;

        void clear() {
            size = 0;
            clauses = 0;
        }

        void emit(int kind, int value) {
            if (size < STEPS_MOST) {
                steps[size] = kind | value << KIND_BITS;
                size++;
            }
        }

        /** A clause of the steps from sum to test and on to the last; without a test, test is the last. */
        void addClause(int sum, int test) {
            if (clauses < CLAUSES_MOST) {
                sumStart[clauses] = sum;
                testStart[clauses] = test;
                testEnd[clauses] = size;
                clauses++;
            }
        }
    }

    /** Reads the text of a rule. */
    private static final class RuleReader {
        static final String WORDS = "side person other likes liked years purse gift best year hands";
        static final int DEEPEST = 10;
        static final int VALUES_MOST = 60;

        private final Tape tape;
        private Rule rule = new Rule();
        private int values = 0;

        RuleReader(Tape tape) {
            this.tape = tape;
        }

        /** The fault, 0 without; the rule is whole only without one. */
        int readInto(Rule blank) {
            rule = blank;
            rule.clear();
            values = 0;
            tape.rewind();
            boolean more = true;
            for (int clause = 0; more && clause <= Rule.CLAUSES_MOST; clause++) {
                readClause(clause);
                more = tape.fault == 0 && tape.takeSign(';');
            }
            if (tape.next() != Tape.END) {
                tape.blame(tape.place, Tape.MISPLACED);
            }
            return tape.fault;
        }

        private void readClause(int clause) {
            int at = tape.seek();
            if (tape.takeWord("stay") == NONE) {
                tape.blame(at, Tape.MISPLACED);
                return;
            }
            if (clause >= Rule.CLAUSES_MOST) {
                tape.blame(at, Tape.TOO_MANY_CLAUSES);
                return;
            }
            int sum = rule.size;
            readSum();
            int test = rule.size;
            if (isNextWord("if")) {
                readTest(0);
            }
            rule.addClause(sum, test);
        }

        private boolean isNextWord(String word) {
            return tape.fault == 0 && tape.takeWord(word) != NONE;
        }

        private void readTest(int depth) {
            readPart(depth);
            for (int i = 0; i < TAPE_MOST && isNextWord("or"); i++) {
                readPart(depth);
                rule.emit(Rule.OR, 0);
            }
        }

        private void readPart(int depth) {
            readFact(depth);
            for (int i = 0; i < TAPE_MOST && isNextWord("and"); i++) {
                readFact(depth);
                rule.emit(Rule.AND, 0);
            }
        }

        /** Depth: how many brackets and nots are open around it. */
        private void readFact(int depth) {
            int at = tape.seek();
            boolean isNot = isNextWord("not");
            boolean isBracket = !isNot && tape.fault == 0 && tape.takeSign('[');
            if ((isNot || isBracket) && depth >= DEEPEST) {
                tape.blame(at, Tape.TOO_DEEP);
            } else if (isNot) {
                readFact(depth + 1);
                rule.emit(Rule.NOT, 0);
            } else if (isBracket) {
                readTest(depth + 1);
                closeBracket();
            } else {
                readSum();
                int kind = takeComparer();
                readSum();
                rule.emit(kind, 0);
            }
        }

        private void closeBracket() {
            if (tape.fault == 0 && !tape.takeSign(']')) {
                tape.blame(tape.place, Tape.MISPLACED);
            }
        }

        /** The kind of the sign that comes next, which is counted as its fact. */
        private int takeComparer() {
            int at = tape.seek();
            int kind = Rule.EQUAL;
            if (tape.fault != 0) {
                return kind;
            }
            if (tape.takeSign('<')) {
                kind = tape.takeSignAtOnce('=') ? Rule.NOT_MORE : Rule.LESS;
            } else if (tape.takeSign('>')) {
                kind = tape.takeSignAtOnce('=') ? Rule.NOT_LESS : Rule.MORE;
            } else if (!tape.takeSign('=')) {
                tape.blame(at, Tape.MISPLACED);
            }
            countValue(at);
            return kind;
        }

        /** A plus or minus waits for the end of the term behind it, as that binds more. */
        private void readSum() {
            int waiting = NONE;
            readValue();
            for (int i = 0; i < TAPE_MOST && tape.fault == 0; i++) {
                int kind = takeOperator();
                if (kind == NONE) {
                    break;
                }
                boolean isNewTerm = kind == Rule.PLUS || kind == Rule.MINUS;
                if (isNewTerm && waiting != NONE) {
                    rule.emit(waiting, 0);
                }
                readValue();
                if (isNewTerm) {
                    waiting = kind;
                } else {
                    rule.emit(kind, 0);
                }
            }
            if (waiting != NONE) {
                rule.emit(waiting, 0);
            }
        }

        private int takeOperator() {
            int kind = NONE;
            switch (tape.next()) {
                case '+': kind = Rule.PLUS; break;
                case '-': kind = Rule.MINUS; break;
                case '*': kind = Rule.TIMES; break;
                case '/': kind = Rule.DIVIDED; break;
                case '%': kind = Rule.REST; break;
                default: return NONE;
            }
            tape.place++;
            return kind;
        }

        private void readValue() {
            if (tape.fault != 0) {
                return;
            }
            int at = tape.seek();
            if (tape.isDigitHere()) {
                rule.emit(Rule.NUMBER, tape.takeNumber(Tape.NUMBER_MOST));
            } else {
                int word = tape.takeWord(WORDS);
                if (word == NONE) {
                    tape.blame(at, Tape.MISPLACED);
                    return;
                }
                rule.emit(Rule.WORD, word);
            }
            countValue(at);
        }

        /** Called behind the checks of the lesser faults, as of one place the least is told. */
        private void countValue(int at) {
            if (values >= VALUES_MOST) {
                tape.blame(at, Tape.TOO_MANY_VALUES);
            }
            values++;
        }
    }

    /** The isle at one moment: what its text told and what has come of it since. */
    private static final class State {
        static final int UNTOLD = -1;

        boolean there = false;
        int gift = 0;
        int stay = 0;
        int easts = 0;
        int wests = 0;
        int year = 0;
        long late = 0;
        final int[] purse = new int[2 * SIDE];
        final int[] partner = new int[2 * SIDE];
        final int[] joinings = new int[2 * SIDE];
        final int[] years = new int[SIDE];
        final int[] likes = new int[2 * PAIRS];
        final int[] truly = new int[2 * PAIRS];

        static int cell(int side, int east, int west) {
            return side * PAIRS + east * SIDE + west;
        }

        void clear() {
            there = false;
            gift = 0;
            stay = 0;
            easts = 0;
            wests = 0;
            year = 0;
            late = 0;
            for (int i = 0; i < 2 * SIDE; i++) {
                purse[i] = 0;
                partner[i] = NONE;
                joinings[i] = 0;
            }
            for (int i = 0; i < SIDE; i++) {
                years[i] = 0;
            }
            for (int i = 0; i < 2 * PAIRS; i++) {
                likes[i] = 0;
                truly[i] = UNTOLD;
            }
        }

        void copyFrom(State other) {
            there = other.there;
            gift = other.gift;
            stay = other.stay;
            easts = other.easts;
            wests = other.wests;
            year = other.year;
            late = other.late;
            System.arraycopy(other.purse, 0, purse, 0, 2 * SIDE);
            System.arraycopy(other.partner, 0, partner, 0, 2 * SIDE);
            System.arraycopy(other.joinings, 0, joinings, 0, 2 * SIDE);
            System.arraycopy(other.years, 0, years, 0, SIDE);
            System.arraycopy(other.likes, 0, likes, 0, 2 * PAIRS);
            System.arraycopy(other.truly, 0, truly, 0, 2 * PAIRS);
        }

        void addEast(int money) {
            if (easts < SIDE) {
                purse[easts] = money;
                easts++;
            }
        }

        void addWest(int money) {
            if (wests < SIDE) {
                purse[SIDE + wests] = money;
                wests++;
            }
        }

        void fillUntoldTruth() {
            for (int i = 0; i < 2 * PAIRS; i++) {
                if (truly[i] == UNTOLD) {
                    truly[i] = likes[i];
                }
            }
        }

        boolean hasEast(int east) {
            return east >= 0 && east < easts;
        }

        boolean hasWest(int west) {
            return west >= 0 && west < wests;
        }

        boolean isJoinedEast(int east) {
            return hasEast(east) && partnerOf(EAST, east) >= 0;
        }

        boolean isFreeEast(int east) {
            return hasEast(east) && partnerOf(EAST, east) < 0;
        }

        boolean isFree(int side, int number) {
            return partner[side * SIDE + number] < 0;
        }

        int partnerOf(int side, int number) {
            return partner[side * SIDE + number];
        }

        int purseOf(int side, int number) {
            return purse[side * SIDE + number];
        }

        int joiningsOf(int side, int number) {
            return joinings[side * SIDE + number];
        }

        int like(int side, int east, int west) {
            return likes[side * PAIRS + east * SIDE + west];
        }

        int trueLike(int side, int east, int west) {
            return truly[side * PAIRS + east * SIDE + west];
        }

        boolean likeEachOther(int east, int west) {
            return like(EAST, east, west) > 0 && like(WEST, east, west) > 0;
        }

        boolean couldJoin(int east, int west) {
            return isFree(EAST, east) && isFree(WEST, west) && likeEachOther(east, west);
        }

        /** How much an east likes whom they have, 0 without. */
        int likeOfPartner(int east) {
            int west = partnerOf(EAST, east);
            return west < 0 ? 0 : like(EAST, east, west);
        }

        /** The most that one likes anybody free of the other side, 0 without. */
        int bestFree(int side, int number) {
            int best = 0;
            int start = side * PAIRS + number * (side == EAST ? SIDE : 1);
            int step = side == EAST ? 1 : SIDE;
            int others = side == EAST ? wests : easts;
            for (int other = 0; other < others; other++) {
                if (partner[(1 - side) * SIDE + other] < 0 && likes[start + other * step] > best) {
                    best = likes[start + other * step];
                }
            }
            return best;
        }

        int yearsOf(int side, int number) {
            int east = side == EAST ? number : partnerOf(WEST, number);
            return east < 0 ? 0 : years[east];
        }

        int fact(int side, int number, int what) {
            switch (what) {
                case 0: return purseOf(side, number);
                case 1: return partnerOf(side, number);
                case 2: return yearsOf(side, number);
                case 3: return joiningsOf(side, number);
                default: return -2;
            }
        }

        boolean isLate() {
            return year <= LATE_MOST && (late >>> year & 1) != 0;
        }

        int joinedBits(int side, int people) {
            int bits = 0;
            for (int number = 0; number < people; number++) {
                if (!isFree(side, number)) {
                    bits |= 1 << number;
                }
            }
            return bits;
        }

        private void give(int from, int to, int money) {
            purse[from] -= money;
            purse[to] = Math.min(PURSE_MOST, purse[to] + money);
        }

        /** Joins two who are free: what is given. */
        int joinTwo(int east, int west) {
            int giver = east;
            int taker = SIDE + west;
            int given = Math.min(gift, purse[giver]);
            give(giver, taker, given);
            joinings[giver]++;
            joinings[taker]++;
            partner[giver] = west;
            partner[taker] = east;
            years[east] = 0;
            return given;
        }

        /** Parts an east from whom they have: what goes back. */
        int partTwo(int east) {
            int west = partnerOf(EAST, east);
            if (west < 0) {
                return 0;
            }
            int giver = SIDE + west;
            int taker = east;
            int returned = Math.min(gift / 2, purse[giver]);
            give(giver, taker, returned);
            partner[giver] = NONE;
            partner[taker] = NONE;
            years[east] = 0;
            return returned;
        }

        void passYear() {
            for (int east = 0; east < easts; east++) {
                int west = partnerOf(EAST, east);
                if (west >= 0) {
                    years[east]++;
                    learn(cell(EAST, east, west));
                    learn(cell(WEST, east, west));
                }
            }
            year++;
        }

        private void learn(int cell) {
            if (likes[cell] < truly[cell]) {
                likes[cell]++;
            } else if (likes[cell] > truly[cell]) {
                likes[cell]--;
            }
        }
    }

    /** Says of one who is joined whether they stay. */
    private static final class Judge {
        static final int WORDS_MOST = 11;
        static final int STACK_MOST = 64;

        private final long[] words = new long[WORDS_MOST];
        private final long[] stack = new long[STACK_MOST];

        boolean stays(State state, Rule rule, int side, int east, int west) {
            if (rule == null) {
                return state.like(side, east, west) >= state.stay;
            }
            lookAt(state, side, east, west);
            for (int clause = 0; clause < rule.clauses; clause++) {
                int test = rule.testStart[clause];
                int end = rule.testEnd[clause];
                if (test == end || value(rule, test, end) != 0) {
                    return value(rule, rule.sumStart[clause], test) > 0;
                }
            }
            return false;
        }

        /** The words' values, in the order of RuleReader.WORDS. */
        private void lookAt(State state, int side, int east, int west) {
            int person = side == EAST ? east : west;
            words[0] = side;
            words[1] = person;
            words[2] = side == EAST ? west : east;
            words[3] = state.like(side, east, west);
            words[4] = state.like(1 - side, east, west);
            words[5] = state.years[east];
            words[6] = state.purseOf(side, person);
            words[7] = state.gift;
            words[8] = state.bestFree(side, person);
            words[9] = state.year;
            words[10] = state.joiningsOf(side, person);
        }

        private long value(Rule rule, int from, int to) {
            int top = 0;
            for (int i = from; i < to; i++) {
                int kind = rule.steps[i] & (1 << Rule.KIND_BITS) - 1;
                int value = rule.steps[i] >> Rule.KIND_BITS;
                if (kind == Rule.NUMBER || kind == Rule.WORD) {
                    if (top < STACK_MOST) {
                        stack[top] = kind == Rule.NUMBER ? value : wordValue(value);
                        top++;
                    }
                } else if (kind == Rule.NOT) {
                    if (top >= 1) {
                        stack[top - 1] = stack[top - 1] == 0 ? 1 : 0;
                    }
                } else if (top >= 2) {
                    stack[top - 2] = combined(kind, stack[top - 2], stack[top - 1]);
                    top--;
                }
            }
            return stack[0];
        }

        private long wordValue(int word) {
            return word >= 0 && word < WORDS_MOST ? words[word] : 0;
        }

        private long combined(int kind, long a, long b) {
            switch (kind) {
                case Rule.PLUS: return a + b;
                case Rule.MINUS: return a - b;
                case Rule.TIMES: return a * b;
                case Rule.DIVIDED: return b == 0 ? 0 : a / b;
                case Rule.REST: return b == 0 ? 0 : a % b;
                case Rule.LESS: return a < b ? 1 : 0;
                case Rule.NOT_MORE: return a <= b ? 1 : 0;
                case Rule.EQUAL: return a == b ? 1 : 0;
                case Rule.NOT_LESS: return a >= b ? 1 : 0;
                case Rule.MORE: return a > b ? 1 : 0;
                case Rule.AND: return a & b;
                default: return a | b;
            }
        }
    }

    /** A fair, held upon any state. */
    private static final class Fair {
        private final Judge judge = new Judge();
        private final int[] before = new int[SIDE];
        private final int[] asked = new int[SIDE];
        private final int[] atHand = new int[SIDE];

        /** How many two are joined at it. */
        int pass(State state, Rule rule, boolean late) {
            int joined = 0;
            if (!late) {
                partThose(state, rule);
                askAround(state);
                joined = joinThoseAtHand(state);
            }
            state.passYear();
            return joined;
        }

        private void partThose(State state, Rule rule) {
            for (int east = 0; east < state.easts; east++) {
                int west = state.partnerOf(EAST, east);
                before[east] = west;
                if (west >= 0 && !(judge.stays(state, rule, EAST, east, west)
                        && judge.stays(state, rule, WEST, east, west))) {
                    state.partTwo(east);
                }
            }
        }

        private void askAround(State state) {
            for (int i = 0; i < SIDE; i++) {
                asked[i] = 0;
                atHand[i] = NONE;
            }
            for (int asks = 0; asks < PAIRS; asks++) {
                if (!askOnce(state)) {
                    return;
                }
            }
        }

        /** The least free east who has somebody left to ask asks; false if there is none. */
        private boolean askOnce(State state) {
            for (int east = 0; east < state.easts; east++) {
                if (state.isFree(EAST, east) && !isAtHand(east)) {
                    int west = favourite(state, east);
                    if (west >= 0) {
                        ask(state, east, west);
                        return true;
                    }
                }
            }
            return false;
        }

        private boolean isAtHand(int east) {
            for (int west = 0; west < SIDE; west++) {
                if (atHand[west] == east) {
                    return true;
                }
            }
            return false;
        }

        private int favourite(State state, int east) {
            int best = NONE;
            int most = 0;
            for (int west = 0; west < state.wests; west++) {
                boolean open = state.isFree(WEST, west) && (asked[east] >> west & 1) == 0 && before[east] != west;
                if (open && state.like(EAST, east, west) > most) {
                    best = west;
                    most = state.like(EAST, east, west);
                }
            }
            return best;
        }

        private void ask(State state, int east, int west) {
            asked[east] |= 1 << west;
            int rival = atHand[west];
            int least = rival < 0 ? 0 : state.like(WEST, rival, west);
            if (state.like(WEST, east, west) > least) {
                atHand[west] = east;
            }
        }

        private int joinThoseAtHand(State state) {
            int joined = 0;
            for (int west = 0; west < state.wests; west++) {
                if (atHand[west] >= 0) {
                    state.joinTwo(atHand[west], west);
                    joined++;
                }
            }
            return joined;
        }
    }

    /** What would come of now, on a copy of it. */
    private static final class Foresight {
        private final Fair fair;
        private final State sim = new State();
        int bestTry = NONE;
        int bestSum = 0;
        int joinedThen = 0;
        int joinedOften = 0;
        private long drawn = 0;

        Foresight(Fair fair) {
            this.fair = fair;
        }

        State after(State now, Rule rule, int fairs) {
            sim.copyFrom(now);
            for (int i = 0; i < fairs; i++) {
                fair.pass(sim, rule, sim.isLate());
            }
            return sim;
        }

        int fairsTogether(State now, Rule rule, int east, int most) {
            sim.copyFrom(now);
            return fairsTogetherFromHere(rule, east, most);
        }

        /** Behind how many fairs, most at most, an east still has whom they have here. */
        private int fairsTogetherFromHere(Rule rule, int east, int most) {
            int west = sim.partnerOf(EAST, east);
            for (int fairs = 0; fairs < most; fairs++) {
                fair.pass(sim, rule, sim.isLate());
                // two who part can't be joined again at the same fair, so that no break is missed
                if (sim.partnerOf(EAST, east) != west) {
                    return fairs;
                }
            }
            return most;
        }

        int leastGift(State now, Rule rule, int east, int fairs) {
            for (int gift = 0; gift <= GIFT_MOST; gift++) {
                sim.copyFrom(now);
                sim.gift = gift;
                if (fairsTogetherFromHere(rule, east, fairs) == fairs) {
                    return gift;
                }
            }
            return -2;
        }

        /** Leaves whom it is best to try, and how much that is, in bestTry and bestSum. */
        void tryAll(State now, Rule rule, int east, int fairs) {
            bestTry = NONE;
            bestSum = sumOfTry(now, rule, east, NONE, fairs);
            for (int west = 0; west < now.wests; west++) {
                if (now.couldJoin(east, west)) {
                    int sum = sumOfTry(now, rule, east, west, fairs);
                    if (sum > bestSum) {
                        bestTry = west;
                        bestSum = sum;
                    }
                }
            }
        }

        private int sumOfTry(State now, Rule rule, int east, int west, int fairs) {
            sim.copyFrom(now);
            if (west >= 0) {
                sim.joinTwo(east, west);
            }
            int sum = 0;
            for (int i = 0; i < fairs; i++) {
                fair.pass(sim, rule, sim.isLate());
                sum += sim.likeOfPartner(east);
            }
            return sum;
        }

        void startDraws(int x) {
            drawn = x;
            joinedThen = 0;
            joinedOften = 0;
        }

        private int draw() {
            drawn = drawn * 1103515245L + 12345L & 2147483647L;
            return (int) (drawn / 65536);
        }

        /** One more isle of drawn boats, counted in joinedThen and joinedOften. */
        void drawIsle(State now, Rule rule, int fairs, int percent) {
            sim.copyFrom(now);
            for (int i = 0; i < fairs; i++) {
                boolean drawnLate = draw() % 100 < percent;
                joinedOften += fair.pass(sim, rule, drawnLate || sim.isLate());
            }
            joinedThen += Integer.bitCount(sim.joinedBits(EAST, sim.easts));
        }
    }

    /** The rows in which free ones could be joined so that no two would rather. */
    private static final class Settling {
        private final int[] row = new int[SIDE];
        private final int[] holder = new int[SIDE];
        final int[] first = new int[SIDE];
        int found = 0;
        int best = 0;

        void search(State state) {
            found = 0;
            best = 0;
            for (int i = 0; i < SIDE; i++) {
                row[i] = NONE;
                holder[i] = NONE;
                first[i] = NONE;
            }
            choose(state, 0);
        }

        /** Tries all that the easts from this one on could have; the depth is the east's number. */
        private void choose(State state, int east) {
            if (east >= state.easts || east >= SIDE) {
                takeIfSettled(state);
                return;
            }
            choose(state, east + 1);
            if (!state.isFree(EAST, east)) {
                return;
            }
            for (int west = 0; west < state.wests; west++) {
                if (holder[west] < 0 && state.couldJoin(east, west)) {
                    row[east] = west;
                    holder[west] = east;
                    choose(state, east + 1);
                    row[east] = NONE;
                    holder[west] = NONE;
                }
            }
        }

        private void takeIfSettled(State state) {
            int together = 0;
            for (int east = 0; east < state.easts; east++) {
                for (int west = 0; west < state.wests; west++) {
                    if (state.couldJoin(east, west) && wouldRather(state, east, west)) {
                        return;
                    }
                }
                if (row[east] >= 0) {
                    together += state.like(EAST, east, row[east]) + state.like(WEST, east, row[east]);
                }
            }
            if (found == 0) {
                System.arraycopy(row, 0, first, 0, SIDE);
            }
            found++;
            best = Math.max(best, together);
        }

        /** Of two who could be joined: whether both would rather. */
        private boolean wouldRather(State state, int east, int west) {
            int has = row[east];
            int rival = holder[west];
            boolean eastWould = has < 0 || state.like(EAST, east, west) > state.like(EAST, east, has);
            boolean westWould = rival < 0 || state.like(WEST, east, west) > state.like(WEST, rival, west);
            return eastWould && westWould;
        }
    }

    /** All that an image holds: the isle at its begin and now, notes, the rule in force, x. */
    private static final class World {
        final State begin = new State();
        final State now = new State();
        private final int[] noteFair = new int[NOTES_MOST];
        private final int[] noteEast = new int[NOTES_MOST];
        private final int[] noteWest = new int[NOTES_MOST];
        int notes = 0;
        int force = NONE;
        int x = 0;
        boolean made = false;

        void copyFrom(World other) {
            begin.copyFrom(other.begin);
            now.copyFrom(other.now);
            System.arraycopy(other.noteFair, 0, noteFair, 0, NOTES_MOST);
            System.arraycopy(other.noteEast, 0, noteEast, 0, NOTES_MOST);
            System.arraycopy(other.noteWest, 0, noteWest, 0, NOTES_MOST);
            notes = other.notes;
            force = other.force;
            x = other.x;
        }

        void addNote(int fair, int east, int west) {
            if (notes < NOTES_MOST) {
                noteFair[notes] = fair;
                noteEast[notes] = east;
                noteWest[notes] = west;
                notes++;
            }
        }

        /** How many fairs are held till the last note stands: fairs are numbered from 0. */
        int fairsToNotes() {
            int fairs = 0;
            for (int i = 0; i < notes; i++) {
                fairs = Math.max(fairs, noteFair[i] + 1);
            }
            return fairs;
        }

        /** Whether a state is as the notes tell that it was behind a fair. */
        boolean notesAreSo(State state, int fairNumber) {
            for (int i = 0; i < notes; i++) {
                if (noteFair[i] == fairNumber && state.partnerOf(EAST, noteEast[i]) != noteWest[i]) {
                    return false;
                }
            }
            return true;
        }
    }

    /** What must have been, from the begin on, for the notes to be so. */
    private static final class Riddle {
        static final int SET_YEARS = 8;
        static final int SET_MASK = (1 << SET_YEARS) - 1;
        static final int CANDIDATES_MOST = RULES_MOST + 1;

        private final Fair fair;
        private final State sim = new State();
        private final int[] whom = new int[CANDIDATES_MOST * SIDE];
        private int candidates = 0;
        int sets = 0;
        int leastSet = -2;
        int inAll = 0;
        int lookAt = -2;
        int mostAlike = -2;

        Riddle(Fair fair) {
            this.fair = fair;
        }

        boolean fits(World world, Rule rule) {
            sim.copyFrom(world.begin);
            return fitsFromHere(world, rule);
        }

        private boolean fitsFromHere(World world, Rule rule) {
            int fairs = world.fairsToNotes();
            for (int i = 0; i < fairs; i++) {
                fair.pass(sim, rule, sim.isLate());
                if (!world.notesAreSo(sim, i)) {
                    return false;
                }
            }
            return true;
        }

        /** Leaves how many sets fit, the least and what is in all in sets, leastSet and inAll. */
        void searchBoats(World world, Rule rule) {
            // boats behind the last note change nothing, so that sets that differ there fit alike
            int years = Math.min(SET_YEARS, world.fairsToNotes());
            int fitting = 0;
            leastSet = -2;
            inAll = SET_MASK;
            for (int set = 0; set < 1 << years; set++) {
                sim.copyFrom(world.begin);
                sim.late = world.begin.late & ~(long) SET_MASK | set;
                if (fitsFromHere(world, rule)) {
                    leastSet = fitting == 0 ? set : leastSet;
                    inAll &= set;
                    fitting++;
                }
            }
            sets = fitting << SET_YEARS - years;
            inAll = fitting == 0 ? 0 : inAll;
        }

        void startLook() {
            candidates = 0;
        }

        /** Adds whom easts have behind a fair by a rule, if the notes are so by it. */
        void addToLook(World world, Rule rule, int fairNumber) {
            sim.copyFrom(world.begin);
            if (candidates >= CANDIDATES_MOST || !fitsFromHere(world, rule)) {
                return;
            }
            sim.copyFrom(world.begin);
            for (int i = 0; i <= fairNumber; i++) {
                fair.pass(sim, rule, sim.isLate());
            }
            for (int east = 0; east < SIDE; east++) {
                whom[candidates * SIDE + east] = sim.partnerOf(EAST, east);
            }
            candidates++;
        }

        /** Leaves the east by whom those added part best, and the most alike, in lookAt and mostAlike. */
        void chooseLook(int easts) {
            lookAt = -2;
            mostAlike = -2;
            for (int east = 0; east < easts && candidates > 0; east++) {
                int alike = mostAlikeBy(east);
                if (lookAt < 0 || alike < mostAlike) {
                    lookAt = east;
                    mostAlike = alike;
                }
            }
        }

        private int mostAlikeBy(int east) {
            int most = 0;
            for (int i = 0; i < candidates; i++) {
                int alike = 0;
                for (int j = 0; j < candidates; j++) {
                    if (whom[i * SIDE + east] == whom[j * SIDE + east]) {
                        alike++;
                    }
                }
                most = Math.max(most, alike);
            }
            return most;
        }
    }
}
