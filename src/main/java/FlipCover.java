/**
 * Decisions over conditions, covered by independent effect.
 *
 * A set of tests is an int, test t being its bit t; as there are 16 tests at most, whole columns of
 * answers (what a condition is, to what a goal comes) are worked out for all tests at once.
 */
public final class FlipCover {
    public static final int NONE = -1;

    private static final int NO_SUCH = -2;
    private static final int MOST_BYTES = 1600;
    private static final int BYTES_FED = 20;
    private static final int MOST_CONDITIONS = 4;
    private static final int MOST_TESTS = 16;
    private static final int ALL_TESTS = 0xFFFF;
    private static final int MOST_LOOKS = 10;
    private static final int FORMS = 3;
    private static final int MOST_ODDS = 4;

    /** The tests in which each condition is 1. */
    private static final int[] CONDITION_TESTS = {0xAAAA, 0xCCCC, 0xF0F0, 0xFF00};

    private final Scanner tape;
    private final Parser parser;
    private final Chart chart;
    private final Pairing[] pairings;
    private final Faulties mutants;
    private final Journal journal;
    private final Sightings sightings;
    private Plan plan;
    private Plan spare;

    public FlipCover() {
        tape = new Scanner();
        plan = new Plan();
        spare = new Plan();
        parser = new Parser(tape, spare);
        chart = new Chart(plan);
        pairings = new Pairing[FORMS];
        for (int form = 0; form < FORMS; form++) {
            pairings[form] = new Pairing(form);
        }
        mutants = new Faulties();
        journal = new Journal();
        sightings = new Sightings();
        settle();
    }

    public int feed(int a, int b, int c, int d, int e) {
        if (tape.length > MOST_BYTES - BYTES_FED) {
            return NONE;
        }
        tape.put(a);
        tape.put(b);
        tape.put(c);
        tape.put(d);
        tape.put(e);
        return tape.length;
    }

    public int end(int n) {
        if (n < 0 || n > tape.length) {
            return NONE;
        }
        tape.length = n;
        return n;
    }

    public int decision() {
        // read into the spare one, for a fault must leave the decision as it is
        parser.read(spare);
        tape.length = 0;
        if (parser.faultSort != 0) {
            return NONE;
        }
        Plan before = plan;
        plan = spare;
        spare = before;
        settle();
        return plan.conditions;
    }

    public int fault(int what) {
        switch (what) {
            case 0:
                return parser.faultSort;
            case 1:
                return parser.faultPlace;
            default:
                return NONE;
        }
    }

    public int test(int test, int what) {
        if (!isTest(test)) {
            return NONE;
        }
        switch (what) {
            case 0:
                return bit(chart.trueTests, test);
            case 1:
                return bit(chart.can, test);
            case 2:
                return chart.looksOf(test);
            case 3:
                return Integer.bitCount(chart.looksOf(test));
            case 4:
                return chart.costs[test];
            case 5:
                return chart.swayersOf(test);
            case 6:
                return bit(journal.log, test);
            default:
                return NONE;
        }
    }

    public int look(int look, int what) {
        if (!isLook(look)) {
            return NO_SUCH;
        }
        switch (what) {
            case 0:
                return plan.goal.lookCondition[look];
            case 1:
                return plan.goal.lookWithin[look];
            default:
                return NO_SUCH;
        }
    }

    public int pair(int cond, int test, int other, int form) {
        if (!isTest(other)) {
            return NONE;
        }
        int mates = partners(cond, test, form);
        return mates == NONE ? NONE : bit(mates, other);
    }

    public int partners(int cond, int test, int form) {
        if (!isCondition(cond) || !isTest(test) || !isForm(form)) {
            return NONE;
        }
        return pairings[form].matesOf(cond, test);
    }

    public int pairs(int cond, int form) {
        if (!isCondition(cond) || !isForm(form)) {
            return NONE;
        }
        return pairings[form].pairsOf(cond);
    }

    public int run(int test) {
        if (!isTest(test) || bit(chart.can, test) == 0) {
            return NONE;
        }
        journal.record(1 << test, plan.loses);
        return journal.log;
    }

    public int drop(int test) {
        if (!isTest(test) || bit(journal.log, test) == 0) {
            return NONE;
        }
        journal.act(journal.log & ~(1 << test), journal.seed);
        return journal.log;
    }

    public int merge(int box) {
        if (!journal.isKept(box)) {
            return NONE;
        }
        journal.act(journal.log | journal.boxLogs[box], journal.seed);
        return journal.log;
    }

    public boolean undo() {
        return journal.stepBack();
    }

    public boolean redo() {
        return journal.stepOn();
    }

    public int possible() {
        return chart.can;
    }

    public int truths() {
        return chart.trueTests;
    }

    public int covers(int tests, int form) {
        if (!isForm(form) || (tests & ~chart.all) != 0) {
            return NONE;
        }
        return pairings[form].coveredBy(tests);
    }

    public int coverable(int form) {
        return isForm(form) ? pairings[form].needed : NONE;
    }

    public int covered(int form) {
        return isForm(form) ? pairings[form].coveredBy(journal.log) : NONE;
    }

    public int percent(int form) {
        if (!isForm(form)) {
            return NONE;
        }
        int all = Integer.bitCount(pairings[form].needed);
        return all == 0 ? 100 : countCovered(form, journal.log) * 100 / all;
    }

    public int least(int form, int what) {
        if (!isForm(form) || !isPart(what)) {
            return NONE;
        }
        int tests = pairings[form].leastTests();
        return what == 0 ? Integer.bitCount(tests) : tests;
    }

    public int cheapest(int form, int what) {
        if (!isForm(form) || !isPart(what)) {
            return NONE;
        }
        int tests = pairings[form].cheapestTests(chart.weights);
        return what == 0 ? chart.costOf(tests) : tests;
    }

    public int more(int form, int what) {
        if (!isForm(form) || !isPart(what)) {
            return NONE;
        }
        int tests = pairings[form].missingTests(journal.log);
        return what == 0 ? Integer.bitCount(tests) : tests;
    }

    public int next(int form) {
        if (!isForm(form)) {
            return NONE;
        }
        int open = chart.can & ~journal.log;
        int best = NONE;
        int most = NONE;
        for (int t = 0; t < chart.tests; t++) {
            int count = bit(open, t) == 0 ? NONE : countCovered(form, journal.log | 1 << t);
            if (count > most) {
                most = count;
                best = t;
            }
        }
        return best;
    }

    public int needless(int form) {
        if (!isForm(form)) {
            return NONE;
        }
        int count = countCovered(form, journal.log);
        int tests = 0;
        for (int t = 0; t < chart.tests; t++) {
            int one = journal.log & 1 << t;
            if (one != 0 && countCovered(form, journal.log & ~one) == count) {
                tests |= one;
            }
        }
        return tests;
    }

    public int sway(int cond) {
        return isCondition(cond) ? Integer.bitCount(chart.swayed[cond]) : NONE;
    }

    public int couple(int cond, int other) {
        if (!isCondition(cond) || !isCondition(other)) {
            return NONE;
        }
        int unlike = (CONDITION_TESTS[cond] ^ CONDITION_TESTS[other]) & chart.can;
        int alwaysAlike = unlike == 0 ? 1 : 0;
        int alwaysUnlike = unlike == chart.can ? 2 : 0;
        return alwaysAlike + alwaysUnlike;
    }

    public int fixed(int cond) {
        if (!isCondition(cond) || chart.can == 0) {
            return NONE;
        }
        int ones = CONDITION_TESTS[cond] & chart.can;
        if (ones == 0) {
            return 0;
        }
        return ones == chart.can ? 1 : NONE;
    }

    public int dead() {
        int looks = 0;
        for (int look = 0; look < plan.goal.looks; look++) {
            if ((chart.lookedTests[look] & chart.can) == 0) {
                looks |= 1 << look;
            }
        }
        return looks;
    }

    public int halves() {
        int looks = 0;
        for (int look = 0; look < plan.goal.looks; look++) {
            int found = chart.lookedTests[look] & journal.log;
            int ones = found & plan.goal.lookTests[look];
            if (ones != 0 && ones != found) {
                looks |= 1 << look;
            }
        }
        return looks;
    }

    public int ways() {
        int count = 0;
        for (int t = 0; t < chart.tests; t++) {
            if (bit(chart.can, t) == 1 && !chart.goneBefore(t)) {
                count++;
            }
        }
        return count;
    }

    public int mean(int part) {
        if (!isPart(part)) {
            return NONE;
        }
        int looked = 0;
        for (int look = 0; look < plan.goal.looks; look++) {
            looked += Integer.bitCount(chart.lookedTests[look] & chart.can);
        }
        return lowest(looked, Integer.bitCount(chart.can), part);
    }

    public int faulties() {
        return mutants.count;
    }

    public int faulty(int faulty, int what) {
        if (!isFaulty(faulty)) {
            return NONE;
        }
        switch (what) {
            case 0:
                return mutants.kindOf(faulty);
            case 1:
                return mutants.placeOf(faulty);
            default:
                return NONE;
        }
    }

    public int shows(int faulty) {
        return isFaulty(faulty) ? mutants.showers[faulty] : NONE;
    }

    public int shown(int test) {
        return isTest(test) ? Long.bitCount(mutants.reached(1 << test)) : NONE;
    }

    public int alive(int what) {
        switch (what) {
            case 0:
                return mutants.count - Long.bitCount(mutants.reached(journal.log));
            case 1:
                return mutants.count - Long.bitCount(mutants.reached(chart.can));
            default:
                return NONE;
        }
    }

    public int killers(int what) {
        if (!isPart(what)) {
            return NONE;
        }
        int tests = mutants.killerTests();
        return what == 0 ? Integer.bitCount(tests) : tests;
    }

    public int exchange(int look, int other) {
        if (!isLook(look) || !isLook(other)) {
            return NONE;
        }
        if (plan.goal.lookCondition[look] == NONE || plan.goal.lookCondition[other] == NONE) {
            return NONE;
        }
        int unlike = plan.goal.comesExchanged(look, other) ^ chart.trueTests;
        return (unlike & chart.all) == 0 ? 1 : 0;
    }

    public int law(int form) {
        return isForm(form) ? pairings[form].lawful : NONE;
    }

    public int odds(int n, int part) {
        if (n < 0 || n > MOST_ODDS || !isPart(part)) {
            return NONE;
        }
        int upper = 1;
        int lower = 1;
        for (int i = 0; i < n; i++) {
            upper *= 100 - plan.loses;
            lower *= 100;
        }
        return lowest(upper, lower, part);
    }

    public int seen(int test, boolean is) {
        return isTest(test) ? sightings.tell(test, is) : NONE;
    }

    public boolean untell(int seen) {
        return sightings.takeBack(seen);
    }

    public int later(int by) {
        return sightings.goOn(by);
    }

    public int fits(int k) {
        sightings.know(k);
        int count = 0;
        for (int i = 0; i <= mutants.count; i++) {
            if (sightings.allows(mutants.outcomes[i])) {
                count++;
            }
        }
        return count;
    }

    public int culprit(int i, int k) {
        sightings.know(k);
        int ahead = 0;
        for (int n = 0; n <= mutants.count; n++) {
            if (sightings.allows(mutants.outcomes[n])) {
                if (ahead == i) {
                    return n - 1;
                }
                ahead++;
            }
        }
        return NO_SUCH;
    }

    public int ask(int what, int k) {
        int all = fits(k);
        if (all == 0 || !isPart(what)) {
            return NONE;
        }
        int best = NONE;
        int fewest = NONE;
        for (int t = 0; t < chart.tests; t++) {
            if (bit(chart.can, t) == 1) {
                int ones = countFitsComing(t);
                int left = Math.max(ones, all - ones);
                if (best == NONE || left < fewest) {
                    best = t;
                    fewest = left;
                }
            }
        }
        return what == 0 ? best : fewest;
    }

    public int image(int box) {
        if (!journal.isBox(box)) {
            return NONE;
        }
        journal.keep(box);
        return journal.log;
    }

    public int back(int box) {
        if (!journal.isKept(box)) {
            return NONE;
        }
        journal.restart(journal.boxLogs[box], journal.boxSeeds[box]);
        return journal.log;
    }

    public int about(int what) {
        switch (what) {
            case 0:
                return plan.conditions;
            case 1:
                return plan.goal.looks;
            case 2:
                return journal.log;
            case 3:
                return plan.nevers;
            case 4:
                return plan.goal.links;
            case 5:
                return journal.seed;
            case 6:
                return journal.undoable;
            case 7:
                return journal.redoable;
            case 8:
                return sightings.count;
            case 9:
                return sightings.time;
            case 10:
                return tape.length;
            case 11:
                return plan.price.units;
            case 12:
                return plan.loses;
            default:
                return NONE;
        }
    }

    /** Works out all that hangs on a decision that is new. */
    private void settle() {
        chart.redraw(plan);
        for (int form = 0; form < FORMS; form++) {
            pairings[form].redraw(chart);
        }
        mutants.redraw(plan.goal, chart);
        journal.emptyBoxes();
        journal.restart(0, plan.draw);
        sightings.forget();
    }

    private boolean isTest(int test) {
        return test >= 0 && test < chart.tests;
    }

    private boolean isCondition(int cond) {
        return cond >= 0 && cond < plan.conditions;
    }

    private boolean isLook(int look) {
        return look >= 0 && look < plan.goal.looks;
    }

    private boolean isFaulty(int faulty) {
        return faulty >= 0 && faulty < mutants.count;
    }

    private static boolean isForm(int form) {
        return form >= 0 && form < FORMS;
    }

    private static boolean isPart(int part) {
        return part == 0 || part == 1;
    }

    private static int bit(int tests, int test) {
        return tests >>> test & 1;
    }

    private int countCovered(int form, int tests) {
        return Integer.bitCount(pairings[form].coveredBy(tests));
    }

    /** How many of what fits by the sightings known last come to 1 in a test. */
    private int countFitsComing(int test) {
        int count = 0;
        for (int i = 0; i <= mutants.count; i++) {
            if (bit(mutants.outcomes[i], test) == 1 && sightings.allows(mutants.outcomes[i])) {
                count++;
            }
        }
        return count;
    }

    /** A part of upper by lower in lowest terms, 0 being 0 of 1. */
    private static int lowest(int upper, int lower, int part) {
        if (upper == 0 || lower == 0) {
            return part;
        }
        int a = upper;
        int b = lower;
        // two ints have their common divisor within 50 steps
        for (int n = 0; n < 100 && b != 0; n++) {
            int rest = a % b;
            a = b;
            b = rest;
        }
        if (a == 0) {
            return NONE;
        }
        return part == 0 ? upper / a : lower / a;
    }

    /** The tape, and the tokens on it, gone through one by one. */
    static final class Scanner {
        static final int END = 0;
        static final int BAD = 1;
        static final int NAME = 2;
        static final int DIGITS = 3;
        // a sign's sort is its byte; words that stand for themselves come behind all bytes, as told in WORDS
        static final int COND = 256;
        static final int GOAL = 257;
        static final int NEVER = 258;
        static final int COSTS = 259;
        static final int LOSES = 260;
        static final int DRAW = 261;
        static final int OR = 262;
        static final int AND = 263;
        static final int NOT = 264;
        static final int TRUE = 265;
        static final int FALSE = 266;
        static final int NUMBER = 267;
        static final int ONES = 268;
        static final int LOOKS = 269;
        static final int COMES = 270;

        private static final String WORDS =
            "cond goal never costs loses draw or and not true false number ones looks comes ";
        private static final int WORD_COUNT = 15;
        private static final String SIGNS = ";()<>=+-*/%";
        private static final int LONGEST_WORD = 8;
        private static final int LONGEST_NUMBER = 4;

        private final byte[] bytes = new byte[MOST_BYTES];
        private final long[] words = new long[WORD_COUNT];
        // the tokens, the end being one of them
        private final int[] sorts = new int[MOST_BYTES + 1];
        private final int[] places = new int[MOST_BYTES + 1];
        private final long[] contents = new long[MOST_BYTES + 1];
        private int count;
        private int at;
        int length;
        int sort;
        int place;
        /** What a number is worth, how a word is spelled. */
        long content;

        Scanner() {
            int known = 0;
            long code = 0;
            for (int i = 0; i < WORDS.length() && known < WORD_COUNT; i++) {
                if (WORDS.charAt(i) == ' ') {
                    words[known] = code;
                    known++;
                    code = 0;
                } else {
                    code = spell(code, WORDS.charAt(i));
                }
            }
        }

        /** Puts an int's four bytes on the tape, the highest first. */
        void put(int four) {
            for (int shift = 24; shift >= 0 && length < MOST_BYTES; shift -= 8) {
                bytes[length] = (byte) (four >>> shift);
                length++;
            }
        }

        /** Parts the tape into tokens and goes to the first one. */
        void scan() {
            int from = 0;
            for (count = 0; count <= MOST_BYTES && from != NONE; count++) {
                from = scanToken(from);
            }
            at = NONE;
            advance();
        }

        void advance() {
            if (at < count - 1) {
                at++;
                sort = sorts[at];
                place = places[at];
                content = contents[at];
            }
        }

        /** Scans the token that comes next: where it is left behind, NONE at the end. */
        private int scanToken(int from) {
            int start = from;
            while (start < length && isBlank(byteAt(start))) {
                start++;
            }
            places[count] = start;
            contents[count] = 0;
            int sign = byteAt(start);
            if (isLetter(sign)) {
                return scanWord(start);
            }
            if (isDigit(sign)) {
                return scanNumber(start);
            }
            if (sign == NONE) {
                sorts[count] = END;
                return NONE;
            }
            sorts[count] = SIGNS.indexOf((char) sign) >= 0 ? sign : BAD;
            return start + 1;
        }

        private int scanWord(int start) {
            int stop = start;
            long code = 0;
            while (stop < length && isLetter(byteAt(stop))) {
                code = spell(code, byteAt(stop));
                stop++;
            }
            sorts[count] = stop - start > LONGEST_WORD ? BAD : sortOf(code);
            contents[count] = code;
            return stop;
        }

        private int sortOf(long code) {
            for (int i = 0; i < WORD_COUNT; i++) {
                if (words[i] == code) {
                    return COND + i;
                }
            }
            return NAME;
        }

        private int scanNumber(int start) {
            int stop = start;
            long number = 0;
            while (stop < length && isDigit(byteAt(stop))) {
                number = number * 10 + byteAt(stop) - '0';
                stop++;
            }
            sorts[count] = stop - start > LONGEST_NUMBER || isLetter(byteAt(stop)) ? BAD : DIGITS;
            contents[count] = number;
            return stop;
        }

        private int byteAt(int i) {
            return i >= 0 && i < length && i < MOST_BYTES ? bytes[i] & 255 : NONE;
        }

        private static long spell(long code, int letter) {
            return code * 32 + letter - 'a' + 1;
        }

        private static boolean isBlank(int sign) {
            return sign == 32 || sign == 10;
        }

        private static boolean isLetter(int sign) {
            return sign >= 'a' && sign <= 'z';
        }

        private static boolean isDigit(int sign) {
            return sign >= '0' && sign <= '9';
        }
    }

    /** A b of the grammar: a tree whose nodes stand behind what they join, the root last. */
    static final class Formula {
        static final int NOTHING_TURNED = -1;
        private static final int MOST_NODES = 2 * MOST_LOOKS - 1;
        private static final int LOOK = 0;

        private final int[] sorts = new int[MOST_NODES];
        private final int[] lefts = new int[MOST_NODES];
        private final int[] rights = new int[MOST_NODES];
        private final int[] marks = new int[MOST_NODES];
        private final int[] flips = new int[MOST_NODES];
        private final int[] values = new int[MOST_NODES];
        private final int[] reach = new int[MOST_NODES];
        private int nodes;
        final int[] lookCondition = new int[MOST_LOOKS];
        final int[] lookWithin = new int[MOST_LOOKS];
        final int[] lookTests = new int[MOST_LOOKS];
        int looks;
        int links;

        void clear() {
            nodes = 0;
            looks = 0;
            links = 0;
        }

        /** Adds a look with its node: of a condition, or of NONE that is the same in all tests. */
        int addLook(int condition, int tests, int within) {
            if (looks >= MOST_LOOKS) {
                return NONE;
            }
            lookCondition[looks] = condition;
            lookTests[looks] = tests;
            lookWithin[looks] = within;
            looks++;
            return addNode(LOOK, looks - 1, NONE, NONE);
        }

        /** Numbers an and, an or as it is met, for its node comes only behind what it joins. */
        int meetLink() {
            links++;
            return links - 1;
        }

        int addLink(int sort, int link, int left, int right) {
            boolean stand = left >= 0 && left < nodes && right >= 0 && right < nodes;
            return stand ? addNode(sort, link, left, right) : NONE;
        }

        void negate(int node) {
            if (node >= 0 && node < nodes) {
                flips[node] = ~flips[node];
            }
        }

        private int addNode(int sort, int mark, int left, int right) {
            if (nodes >= MOST_NODES) {
                return NONE;
            }
            sorts[nodes] = sort;
            marks[nodes] = mark;
            lefts[nodes] = left;
            rights[nodes] = right;
            flips[nodes] = 0;
            nodes++;
            return nodes - 1;
        }

        /** The tests that come to 1, if a link (or NOTHING_TURNED) is turned into the other sort. */
        int comes(int turned) {
            for (int i = 0; i < nodes; i++) {
                values[i] = valueOf(i, turned) ^ flips[i];
            }
            return nodes == 0 ? 0 : values[nodes - 1] & ALL_TESTS;
        }

        private int valueOf(int node, int turned) {
            if (sorts[node] == LOOK) {
                return lookTests[marks[node]];
            }
            int left = values[lefts[node]];
            int right = values[rights[node]];
            boolean isAnd = sorts[node] == Scanner.AND;
            if (marks[node] == turned) {
                isAnd = !isAnd;
            }
            return isAnd ? left & right : left | right;
        }

        /** The tests that come to 1, if a look finds these tests to be 1. */
        int comesWith(int look, int tests) {
            int own = lookTests[look];
            lookTests[look] = tests;
            int result = comes(NOTHING_TURNED);
            lookTests[look] = own;
            return result;
        }

        int comesExchanged(int look, int other) {
            int own = lookTests[look];
            lookTests[look] = lookTests[other];
            int result = comesWith(other, own);
            lookTests[look] = own;
            return result;
        }

        /** Puts for each look the tests that look at it; from the root down, each node ahead of its parts. */
        void traceLooks(int[] lookedTests) {
            comes(NOTHING_TURNED);
            if (nodes > 0) {
                reach[nodes - 1] = ALL_TESTS;
            }
            for (int i = nodes - 1; i >= 0; i--) {
                if (sorts[i] == LOOK) {
                    lookedTests[marks[i]] = reach[i];
                } else {
                    int left = values[lefts[i]];
                    reach[lefts[i]] = reach[i];
                    reach[rights[i]] = reach[i] & (sorts[i] == Scanner.AND ? left : ~left);
                }
            }
        }
    }

    /** An e of the grammar: nodes that stand behind what they join, the root last. */
    static final class Price {
        static final int MOST_UNITS = 30;
        private static final int DEAREST = 99;
        // 30 units, what joins them, and 7 not ahead of each are fewer
        private static final int MOST_NODES = 300;

        private final int[] sorts = new int[MOST_NODES];
        private final int[] lefts = new int[MOST_NODES];
        private final int[] rights = new int[MOST_NODES];
        private final int[] values = new int[MOST_NODES];
        private int nodes;
        int units;

        void clear() {
            nodes = 0;
            units = 0;
        }

        /** Adds a node without parts; only one of DIGITS has a value of its own. */
        int addUnit(int sort, int value) {
            if (nodes >= MOST_NODES) {
                return NONE;
            }
            sorts[nodes] = sort;
            values[nodes] = value;
            nodes++;
            return nodes - 1;
        }

        int addLink(int sort, int left, int right) {
            if (left < 0 || left >= nodes || right < 0 || right >= nodes) {
                return NONE;
            }
            int node = addUnit(sort, 0);
            if (node != NONE) {
                lefts[node] = left;
                rights[node] = right;
            }
            return node;
        }

        /** What comes of it, kept within 0 .. 99; 1 if nothing is told. */
        int costOf(int number, int ones, int looks, int comes) {
            if (nodes == 0) {
                return 1;
            }
            for (int i = 0; i < nodes; i++) {
                switch (sorts[i]) {
                    case Scanner.DIGITS:
                        break;
                    case Scanner.NUMBER:
                        values[i] = number;
                        break;
                    case Scanner.ONES:
                        values[i] = ones;
                        break;
                    case Scanner.LOOKS:
                        values[i] = looks;
                        break;
                    case Scanner.COMES:
                        values[i] = comes;
                        break;
                    default:
                        values[i] = linked(sorts[i], values[lefts[i]], values[rights[i]]);
                        break;
                }
            }
            return Math.max(0, Math.min(DEAREST, values[nodes - 1]));
        }

        private static int linked(int sort, int left, int right) {
            switch (sort) {
                case '+':
                    return left + right;
                case '-':
                    return left - right;
                case '*':
                    return left * right;
                case '/':
                    return right == 0 ? 0 : left / right;
                case '%':
                    return right == 0 ? 0 : left % right;
                case '<':
                    return left < right ? 1 : 0;
                case '>':
                    return left > right ? 1 : 0;
                case '=':
                    return left == right ? 1 : 0;
                case Scanner.AND:
                    return left != 0 && right != 0 ? 1 : 0;
                case Scanner.OR:
                    return left != 0 || right != 0 ? 1 : 0;
                default:
                    // a not has its one part on both sides
                    return left == 0 ? 1 : 0;
            }
        }
    }

    /** What a decision tells. */
    static final class Plan {
        static final int MOST_NEVERS = 4;

        private final long[] names = new long[MOST_CONDITIONS];
        final Formula goal = new Formula();
        final Price price = new Price();
        int conditions;
        int nevers;
        int neverTests;
        int loses;
        int draw;
        boolean goalTold;
        boolean costsTold;
        boolean losesTold;
        boolean drawTold;

        void clear() {
            conditions = 0;
            nevers = 0;
            neverTests = 0;
            loses = 0;
            draw = 0;
            goalTold = false;
            costsTold = false;
            losesTold = false;
            drawTold = false;
            goal.clear();
            price.clear();
        }

        void addCondition(long name) {
            if (conditions < MOST_CONDITIONS) {
                names[conditions] = name;
                conditions++;
            }
        }

        int conditionOf(long name) {
            for (int i = 0; i < conditions; i++) {
                if (names[i] == name) {
                    return i;
                }
            }
            return NONE;
        }
    }

    /** Reads the tape into a plan, up to the first fault. */
    static final class Parser {
        private static final int NO_TOKEN = 1;
        private static final int CANT_STAND = 2;
        private static final int TOLD_ALREADY = 3;
        private static final int CANT_BE = 4;
        private static final int UNKNOWN = 5;
        private static final int DEEPEST = 6;
        private static final int MOST_LOSES = 100;
        private static final int MOST_DRAW = 999;

        private final Scanner tokens;
        private final Formula never = new Formula();
        private Formula formula = never;
        private Plan plan;
        int faultSort;
        int faultPlace = NONE;

        Parser(Scanner tokens, Plan plan) {
            this.tokens = tokens;
            this.plan = plan;
        }

        void read(Plan into) {
            plan = into;
            plan.clear();
            faultSort = 0;
            faultPlace = NONE;
            tokens.scan();
            for (int n = 0; n <= MOST_BYTES && faultSort == 0 && tokens.sort != Scanner.END; n++) {
                readLine();
            }
        }

        /** Tells a fault at the token that is on; of what is no token there is no other fault. */
        private int refuse(int fault) {
            if (faultSort == 0) {
                faultSort = tokens.sort == Scanner.BAD ? NO_TOKEN : fault;
                faultPlace = tokens.place;
            }
            return NONE;
        }

        private void readLine() {
            switch (tokens.sort) {
                case Scanner.COND:
                    readCondition();
                    break;
                case Scanner.GOAL:
                    readGoal();
                    break;
                case Scanner.NEVER:
                    readNever();
                    break;
                case Scanner.COSTS:
                    readCosts();
                    break;
                case Scanner.LOSES:
                    readLoses();
                    break;
                case Scanner.DRAW:
                    readDraw();
                    break;
                default:
                    refuse(CANT_STAND);
                    break;
            }
            closeLine();
        }

        private void closeLine() {
            if (faultSort != 0) {
                return;
            }
            if (tokens.sort == ';') {
                tokens.advance();
            } else {
                refuse(CANT_STAND);
            }
        }

        private void readCondition() {
            if (plan.conditions >= MOST_CONDITIONS) {
                refuse(CANT_STAND);
                return;
            }
            tokens.advance();
            if (tokens.sort != Scanner.NAME) {
                refuse(CANT_STAND);
            } else if (plan.conditionOf(tokens.content) != NONE) {
                refuse(TOLD_ALREADY);
            } else {
                plan.addCondition(tokens.content);
                tokens.advance();
            }
        }

        private void readGoal() {
            if (plan.goalTold) {
                refuse(CANT_STAND);
                return;
            }
            plan.goalTold = true;
            formula = plan.goal;
            tokens.advance();
            readAny(0);
        }

        private void readNever() {
            if (plan.nevers >= Plan.MOST_NEVERS) {
                refuse(CANT_STAND);
                return;
            }
            plan.nevers++;
            formula = never;
            formula.clear();
            tokens.advance();
            readAny(0);
            // worked out for 16 tests, as conditions may still be told behind it
            plan.neverTests |= never.comes(Formula.NOTHING_TURNED);
        }

        private void readCosts() {
            if (plan.costsTold) {
                refuse(CANT_STAND);
                return;
            }
            plan.costsTold = true;
            tokens.advance();
            readEither(0);
        }

        private void readLoses() {
            if (plan.losesTold) {
                refuse(CANT_STAND);
                return;
            }
            plan.losesTold = true;
            plan.loses = readUpTo(MOST_LOSES);
        }

        private void readDraw() {
            if (plan.drawTold) {
                refuse(CANT_STAND);
                return;
            }
            plan.drawTold = true;
            plan.draw = readUpTo(MOST_DRAW);
        }

        private int readUpTo(int most) {
            tokens.advance();
            if (tokens.sort != Scanner.DIGITS) {
                return refuse(CANT_STAND);
            }
            if (tokens.content > most) {
                return refuse(CANT_BE);
            }
            int value = (int) tokens.content;
            tokens.advance();
            return value;
        }

        /** Reads a b; its node, or NONE behind a fault. */
        private int readAny(int within) {
            int node = readAll(within);
            for (int n = 0; n < MOST_BYTES && node != NONE && tokens.sort == Scanner.OR; n++) {
                int link = formula.meetLink();
                tokens.advance();
                node = formula.addLink(Scanner.OR, link, node, readAll(within));
            }
            return node;
        }

        private int readAll(int within) {
            int node = readOwn(within);
            for (int n = 0; n < MOST_BYTES && node != NONE && tokens.sort == Scanner.AND; n++) {
                int link = formula.meetLink();
                tokens.advance();
                node = formula.addLink(Scanner.AND, link, node, readOwn(within));
            }
            return node;
        }

        private int readOwn(int within) {
            int depth = passNots(within);
            if (depth == NONE) {
                return NONE;
            }
            int node = tokens.sort == '(' ? readInner(depth) : readLook(depth);
            if ((depth - within) % 2 == 1) {
                formula.negate(node);
            }
            return node;
        }

        /** Passes each not that is on: within how many others what follows is; NONE behind a fault. */
        private int passNots(int within) {
            int depth = within;
            for (int n = 0; n < MOST_BYTES && tokens.sort == Scanner.NOT; n++) {
                if (depth > DEEPEST) {
                    return refuse(CANT_STAND);
                }
                depth++;
                tokens.advance();
            }
            return depth;
        }

        private int readInner(int within) {
            if (within > DEEPEST) {
                return refuse(CANT_STAND);
            }
            tokens.advance();
            int node = readAny(within + 1);
            return passClose(node);
        }

        private int passClose(int node) {
            if (node == NONE) {
                return NONE;
            }
            if (tokens.sort != ')') {
                return refuse(CANT_STAND);
            }
            tokens.advance();
            return node;
        }

        private int readLook(int within) {
            boolean isName = tokens.sort == Scanner.NAME;
            boolean isTrue = tokens.sort == Scanner.TRUE;
            boolean isFalse = tokens.sort == Scanner.FALSE;
            if (!isName && !isTrue && !isFalse || formula.looks >= MOST_LOOKS) {
                return refuse(CANT_STAND);
            }
            int condition = isName ? plan.conditionOf(tokens.content) : NONE;
            if (isName && condition == NONE) {
                return refuse(UNKNOWN);
            }
            int same = isTrue ? ALL_TESTS : 0;
            tokens.advance();
            return formula.addLook(condition, condition == NONE ? same : CONDITION_TESTS[condition], within);
        }

        /** Reads an e; its node, or NONE behind a fault. */
        private int readEither(int within) {
            int node = readBoth(within);
            for (int n = 0; n < MOST_BYTES && node != NONE && tokens.sort == Scanner.OR; n++) {
                tokens.advance();
                node = plan.price.addLink(Scanner.OR, node, readBoth(within));
            }
            return node;
        }

        private int readBoth(int within) {
            int node = readOne(within);
            for (int n = 0; n < MOST_BYTES && node != NONE && tokens.sort == Scanner.AND; n++) {
                tokens.advance();
                node = plan.price.addLink(Scanner.AND, node, readOne(within));
            }
            return node;
        }

        private int readOne(int within) {
            int depth = passNots(within);
            if (depth == NONE) {
                return NONE;
            }
            int node = readSum(depth);
            if (node != NONE && (tokens.sort == '<' || tokens.sort == '>' || tokens.sort == '=')) {
                int relation = tokens.sort;
                tokens.advance();
                node = plan.price.addLink(relation, node, readSum(depth));
            }
            for (int n = within; n < depth; n++) {
                node = plan.price.addLink(Scanner.NOT, node, node);
            }
            return node;
        }

        private int readSum(int within) {
            int node = readTerm(within);
            for (int n = 0; n < MOST_BYTES && node != NONE && (tokens.sort == '+' || tokens.sort == '-'); n++) {
                int sign = tokens.sort;
                tokens.advance();
                node = plan.price.addLink(sign, node, readTerm(within));
            }
            return node;
        }

        private int readTerm(int within) {
            int node = readUnit(within);
            for (int n = 0; n < MOST_BYTES && node != NONE && isProduct(tokens.sort); n++) {
                int sign = tokens.sort;
                tokens.advance();
                node = plan.price.addLink(sign, node, readUnit(within));
            }
            return node;
        }

        private static boolean isProduct(int sort) {
            return sort == '*' || sort == '/' || sort == '%';
        }

        private int readUnit(int within) {
            if (plan.price.units >= Price.MOST_UNITS) {
                return refuse(CANT_STAND);
            }
            plan.price.units++;
            if (tokens.sort == '(') {
                return readNested(within);
            }
            switch (tokens.sort) {
                case Scanner.DIGITS:
                case Scanner.NUMBER:
                case Scanner.ONES:
                case Scanner.LOOKS:
                case Scanner.COMES:
                    int node = plan.price.addUnit(tokens.sort, (int) tokens.content);
                    tokens.advance();
                    return node;
                default:
                    return refuse(CANT_STAND);
            }
        }

        private int readNested(int within) {
            if (within > DEEPEST) {
                return refuse(CANT_STAND);
            }
            tokens.advance();
            int node = readEither(within + 1);
            return passClose(node);
        }
    }

    /** What each test does by a plan. */
    static final class Chart {
        // a test's weight is its cost first, then itself as one test; 16 tests at most stay below 32
        static final int COST_WEIGHT = 32;

        int conditions;
        int tests;
        int all;
        int can;
        int trueTests;
        private int looks;
        private Formula goal;
        final int[] lookedTests = new int[MOST_LOOKS];
        final int[] swayed = new int[MOST_CONDITIONS];
        private final int[] lookedConditions = new int[MOST_CONDITIONS];
        final int[] costs = new int[MOST_TESTS];
        final int[] weights = new int[MOST_TESTS];

        Chart(Plan plan) {
            goal = plan.goal;
        }

        void redraw(Plan plan) {
            goal = plan.goal;
            looks = goal.looks;
            conditions = plan.conditions;
            tests = 1 << conditions;
            all = (1 << tests) - 1;
            can = all & ~plan.neverTests;
            trueTests = goal.comes(Formula.NOTHING_TURNED) & all;
            goal.traceLooks(lookedTests);
            for (int cond = 0; cond < conditions; cond++) {
                swayed[cond] = trueTests ^ turnedOver(trueTests, cond);
                lookedConditions[cond] = 0;
            }
            for (int look = 0; look < looks; look++) {
                int cond = goal.lookCondition[look];
                if (cond >= 0 && cond < MOST_CONDITIONS) {
                    lookedConditions[cond] |= lookedTests[look];
                }
            }
            for (int t = 0; t < tests; t++) {
                int ones = Integer.bitCount(t);
                costs[t] = plan.price.costOf(t, ones, Integer.bitCount(looksOf(t)), bit(trueTests, t));
                weights[t] = costs[t] * COST_WEIGHT + 1;
            }
        }

        /** Moves each test of a set to the one that has a condition turned over. */
        private int turnedOver(int set, int cond) {
            int ones = CONDITION_TESTS[cond];
            int step = 1 << cond;
            return ((set & ones) >>> step | (set & ~ones) << step) & all;
        }

        int looksOf(int test) {
            int set = 0;
            for (int look = 0; look < looks; look++) {
                set |= bit(lookedTests[look], test) << look;
            }
            return set;
        }

        int swayersOf(int test) {
            int set = 0;
            for (int cond = 0; cond < conditions; cond++) {
                set |= bit(swayed[cond], test) << cond;
            }
            return set;
        }

        int costOf(int set) {
            int sum = 0;
            for (int t = 0; t < tests; t++) {
                sum += bit(set, t) * costs[t];
            }
            return sum;
        }

        /** Whether a test that can be, numbered below this one, goes the same way. */
        boolean goneBefore(int test) {
            for (int t = 0; t < test; t++) {
                if (bit(can, t) == 1 && looksOf(t) == looksOf(test) && onesOf(t) == onesOf(test)) {
                    return true;
                }
            }
            return false;
        }

        /** The looks that a test looks at and finds to be 1. */
        private int onesOf(int test) {
            int set = 0;
            for (int look = 0; look < looks; look++) {
                set |= bit(lookedTests[look] & goal.lookTests[look], test) << look;
            }
            return set;
        }

        /** The tests in which a condition is not what it is in a test. */
        private int unlike(int cond, int test) {
            int ones = CONDITION_TESTS[cond];
            return (bit(ones, test) == 1 ? ~ones : ones) & all;
        }

        /** The tests, can they be or not, that would be a pair of a condition with a test. */
        int mates(int form, int cond, int test) {
            int others = bit(trueTests, test) == 1 ? ~trueTests : trueTests;
            int set = others & unlike(cond, test);
            switch (form) {
                case 0:
                    return set & 1 << (test ^ 1 << cond);
                case 1:
                    return bit(swayed[cond], test) == 1 ? set & swayed[cond] : 0;
                default:
                    return set & asFar(cond, test);
            }
        }

        private int asFar(int cond, int test) {
            if (bit(lookedConditions[cond], test) == 0) {
                return 0;
            }
            int set = lookedConditions[cond];
            for (int other = 0; other < conditions; other++) {
                if (other != cond && bit(lookedConditions[other], test) == 1) {
                    set &= ~(lookedConditions[other] & unlike(other, test));
                }
            }
            return set;
        }
    }

    /** Looks for the lightest set of tests that reaches all that is needed. */
    abstract static class Search {
        /** Each test weighs the same, so that the lightest set is the one of the fewest tests. */
        static final int[] ONE_EACH = {1, 1, 1, 1, 1, 1, 1, 1, 1, 1, 1, 1, 1, 1, 1, 1};
        private static final int HEAVIER_THAN_ALL = 0x7FFFFFFF;

        private int[] weights = ONE_EACH;
        private long wanted;
        private int had;
        private int free;
        private int lightest;
        private int found;

        /** What a set of tests reaches, as bits; more tests never reach less. */
        abstract long reached(int tests);

        /** Whether a test does in each set all that another one does there. */
        abstract boolean standsFor(int test, int other);

        /** The lightest set out of some by which, with those had, all wanted is reached; of like ones the least. */
        final int lightestSet(int[] byWeights, long want, int have, int outOf) {
            weights = byWeights;
            wanted = want;
            had = have;
            free = withoutOutdone(outOf & ALL_TESTS);
            lightest = HEAVIER_THAN_ALL;
            found = 0;
            choose(this, MOST_TESTS, 0, 0);
            return found;
        }

        /** Takes out the tests that others stand for, which are lighter, or as light and less as bits. */
        private int withoutOutdone(int tests) {
            int kept = tests;
            for (int t = 0; t < MOST_TESTS; t++) {
                for (int other = 0; other < MOST_TESTS; other++) {
                    boolean both = (tests & 1 << t) != 0 && (tests & 1 << other) != 0;
                    if (both && isBetter(other, t) && standsFor(other, t)) {
                        kept &= ~(1 << t);
                    }
                }
            }
            return kept;
        }

        private boolean isBetter(int test, int other) {
            return weights[test] < weights[other] || weights[test] == weights[other] && test < other;
        }

        private boolean isEnough(int chosen) {
            return (reached(had | chosen) & wanted) == wanted;
        }

        /**
         * Goes through the sets that add tests below a bound to those chosen, from the least on: so only a
         * lighter one takes the place of one found.
         */
        private static void choose(Search search, int bound, int chosen, int weight) {
            if (search.isEnough(chosen)) {
                search.lightest = weight;
                search.found = chosen;
                return;
            }
            // more tests never reach less: what was enough once stays so
            boolean enough = false;
            for (int t = 0; t < bound && t < MOST_TESTS; t++) {
                int heavier = weight + search.weights[t];
                if (bit(search.free, t) == 1 && heavier < search.lightest) {
                    enough = enough || search.isEnough(chosen | search.free & (2 << t) - 1);
                    if (enough) {
                        choose(search, t, chosen | 1 << t, heavier);
                    }
                }
            }
        }
    }

    /** The pairs by one form. */
    static final class Pairing extends Search {
        private static final int UNSOLVED = -1;

        private final int form;
        private final int[] partnerTests = new int[MOST_CONDITIONS * MOST_TESTS];
        private int conditions;
        private int tests;
        private int trueTests;
        private int useful;
        int needed;
        int lawful;
        private int leastSet;
        private int cheapestSet;
        private int missingSet;
        private int missingLog;

        Pairing(int form) {
            this.form = form;
        }

        void redraw(Chart chart) {
            conditions = chart.conditions;
            tests = chart.tests;
            trueTests = chart.trueTests;
            leastSet = UNSOLVED;
            cheapestSet = UNSOLVED;
            missingSet = UNSOLVED;
            useful = 0;
            needed = 0;
            lawful = 0;
            for (int cond = 0; cond < conditions; cond++) {
                int law = 0;
                int mated = 0;
                for (int t = 0; t < tests; t++) {
                    int mates = chart.mates(form, cond, t);
                    int real = bit(chart.can, t) == 1 ? mates & chart.can : 0;
                    partnerTests[cond * MOST_TESTS + t] = real;
                    law |= mates;
                    mated |= real;
                }
                useful |= mated;
                lawful += law != 0 ? 1 : 0;
                needed |= mated != 0 ? 1 << cond : 0;
            }
        }

        int matesOf(int cond, int test) {
            return partnerTests[cond * MOST_TESTS + test];
        }

        int pairsOf(int cond) {
            int count = 0;
            for (int t = 0; t < tests; t++) {
                if (bit(trueTests, t) == 1) {
                    count += Integer.bitCount(partnerTests[cond * MOST_TESTS + t]);
                }
            }
            return count;
        }

        int coveredBy(int set) {
            return (int) reached(set);
        }

        long reached(int set) {
            int covered = 0;
            for (int cond = 0; cond < conditions; cond++) {
                if (holdsPair(cond, set)) {
                    covered |= 1 << cond;
                }
            }
            return covered;
        }

        boolean standsFor(int test, int other) {
            for (int cond = 0; cond < conditions; cond++) {
                if ((matesOf(cond, other) & ~matesOf(cond, test)) != 0) {
                    return false;
                }
            }
            return true;
        }

        private boolean holdsPair(int cond, int set) {
            // each pair has one test that comes to 1
            int open = set & trueTests;
            for (int t = 0; t < tests; t++) {
                if ((open & 1 << t) != 0 && (partnerTests[cond * MOST_TESTS + t] & set) != 0) {
                    return true;
                }
            }
            return false;
        }

        int leastTests() {
            if (leastSet == UNSOLVED) {
                leastSet = lightestSet(ONE_EACH, needed, 0, useful);
            }
            return leastSet;
        }

        int cheapestTests(int[] weights) {
            if (cheapestSet == UNSOLVED) {
                cheapestSet = lightestSet(weights, needed, 0, useful);
            }
            return cheapestSet;
        }

        int missingTests(int log) {
            if (missingSet == UNSOLVED || missingLog != log) {
                missingLog = log;
                missingSet = lightestSet(ONE_EACH, needed, log, useful & ~log);
            }
            return missingSet;
        }
    }

    /** The faulty goals: links turned, then looks turned over, then looks told 0, told 1. */
    static final class Faulties extends Search {
        private static final int MOST_FAULTIES = MOST_LOOKS - 1 + 3 * MOST_LOOKS;
        private static final int UNSOLVED = -1;

        private int links;
        private int looks;
        private int can;
        private int killerSet;
        int count;
        /** To what the goal comes, then each faulty one. */
        final int[] outcomes = new int[1 + MOST_FAULTIES];
        final int[] showers = new int[MOST_FAULTIES];
        private final long[] shownBy = new long[MOST_TESTS];

        void redraw(Formula goal, Chart chart) {
            links = goal.links;
            looks = goal.looks;
            can = chart.can;
            count = 0;
            killerSet = UNSOLVED;
            for (int t = 0; t < MOST_TESTS; t++) {
                shownBy[t] = 0;
            }
            outcomes[0] = chart.trueTests;
            for (int link = 0; link < links; link++) {
                add(goal.comes(link) & chart.all);
            }
            for (int look = 0; look < looks; look++) {
                add(goal.comesWith(look, ~goal.lookTests[look]) & chart.all);
            }
            for (int look = 0; look < looks; look++) {
                add(goal.comesWith(look, 0) & chart.all);
                add(goal.comesWith(look, ALL_TESTS) & chart.all);
            }
        }

        private void add(int outcome) {
            if (count >= MOST_FAULTIES) {
                return;
            }
            int set = (outcome ^ outcomes[0]) & can;
            outcomes[1 + count] = outcome;
            showers[count] = set;
            for (int t = 0; t < MOST_TESTS; t++) {
                shownBy[t] |= (long) bit(set, t) << count;
            }
            count++;
        }

        int kindOf(int faulty) {
            if (faulty < links) {
                return 0;
            }
            return faulty < links + looks ? 1 : 2 + (faulty - links - looks) % 2;
        }

        int placeOf(int faulty) {
            if (faulty < links) {
                return faulty;
            }
            return faulty < links + looks ? faulty - links : (faulty - links - looks) / 2;
        }

        long reached(int set) {
            long shown = 0;
            for (int t = 0; t < MOST_TESTS; t++) {
                if (bit(set, t) == 1) {
                    shown |= shownBy[t];
                }
            }
            return shown;
        }

        boolean standsFor(int test, int other) {
            return (shownBy[other] & ~shownBy[test]) == 0;
        }

        int killerTests() {
            if (killerSet == UNSOLVED) {
                killerSet = lightestSet(ONE_EACH, reached(can), 0, can);
            }
            return killerSet;
        }
    }

    /** The log and the seed, the acts that can be taken back, and the boxes. */
    static final class Journal {
        private static final int MOST_ACTS = 40;
        private static final int BOXES = 3;
        private static final int SEEDS = 1000;

        int log;
        int seed;
        int undoable;
        int redoable;
        // how things were ahead of the oldest act kept, and behind each one; what is now is at undoable
        private final int[] logs = new int[MOST_ACTS + 1];
        private final int[] seeds = new int[MOST_ACTS + 1];
        final int[] boxLogs = new int[BOXES];
        final int[] boxSeeds = new int[BOXES];
        private final boolean[] boxKept = new boolean[BOXES];

        /** Starts anew from a log and a seed, no acts being kept. */
        void restart(int newLog, int newSeed) {
            undoable = 0;
            redoable = 0;
            put(newLog, newSeed);
        }

        private void put(int newLog, int newSeed) {
            log = newLog;
            seed = newSeed;
            logs[undoable] = newLog;
            seeds[undoable] = newSeed;
        }

        void act(int newLog, int newSeed) {
            redoable = 0;
            if (undoable < MOST_ACTS) {
                undoable++;
            } else {
                System.arraycopy(logs, 1, logs, 0, MOST_ACTS);
                System.arraycopy(seeds, 1, seeds, 0, MOST_ACTS);
            }
            put(newLog, newSeed);
        }

        /** Runs a test, which is lost if the new seed's rest by 100 is below what is lost. */
        void record(int test, int loses) {
            int newSeed = (seed * 137 + 71) % SEEDS;
            act(newSeed % 100 < loses ? log : log | test, newSeed);
        }

        boolean stepBack() {
            if (undoable == 0) {
                return false;
            }
            undoable--;
            redoable++;
            put(logs[undoable], seeds[undoable]);
            return true;
        }

        boolean stepOn() {
            if (redoable == 0 || undoable >= MOST_ACTS) {
                return false;
            }
            redoable--;
            undoable++;
            put(logs[undoable], seeds[undoable]);
            return true;
        }

        boolean isBox(int box) {
            return box >= 0 && box < BOXES;
        }

        boolean isKept(int box) {
            return isBox(box) && boxKept[box];
        }

        void keep(int box) {
            if (isBox(box)) {
                boxLogs[box] = log;
                boxSeeds[box] = seed;
                boxKept[box] = true;
            }
        }

        void emptyBoxes() {
            for (int box = 0; box < BOXES; box++) {
                boxKept[box] = false;
            }
        }
    }

    /** What is seen: outcomes told at a time, untold at a later one or the same. */
    static final class Sightings {
        private static final int MOST_SEEN = 30;
        private static final int MOST_LATER = 1000;
        private static final int LAST_TIME = 100000;

        private final int[] tests = new int[MOST_SEEN];
        private final boolean[] outcomes = new boolean[MOST_SEEN];
        private final int[] toldAt = new int[MOST_SEEN];
        // NONE: not untold
        private final int[] untoldAt = new int[MOST_SEEN];
        int count;
        int time;
        private int ones;
        private int zeros;

        void forget() {
            count = 0;
        }

        int tell(int test, boolean is) {
            if (count >= MOST_SEEN) {
                return NONE;
            }
            tests[count] = test;
            outcomes[count] = is;
            toldAt[count] = time;
            untoldAt[count] = NONE;
            count++;
            return count - 1;
        }

        boolean takeBack(int seen) {
            if (seen < 0 || seen >= count || untoldAt[seen] != NONE) {
                return false;
            }
            untoldAt[seen] = time;
            return true;
        }

        int goOn(int by) {
            if (by < 0 || by > MOST_LATER || time + by > LAST_TIME) {
                return NONE;
            }
            time += by;
            return time;
        }

        /** Takes in what counts as known at a time: the tests seen to come to 1, to 0. */
        void know(int k) {
            ones = 0;
            zeros = 0;
            for (int i = 0; i < count; i++) {
                boolean untold = untoldAt[i] != NONE && untoldAt[i] <= k;
                if (toldAt[i] <= k && !untold) {
                    ones |= outcomes[i] ? 1 << tests[i] : 0;
                    zeros |= outcomes[i] ? 0 : 1 << tests[i];
                }
            }
        }

        /** Whether a goal that comes to 1 in these tests is as all that counts was seen. */
        boolean allows(int outcome) {
            return (ones & ~outcome) == 0 && (zeros & outcome) == 0;
        }
    }
}
