import java.math.BigInteger;
import java.util.ArrayList;
import java.util.HashSet;
import java.util.List;
import java.util.Set;
import java.util.TreeSet;

/** The document done over again in the plainest way, test by test and set by set, to compare answers with. */
final class Oracle {
    static final int NONE = -1;

    private static final Set<String> RESERVED = Set.of("cond", "goal", "never", "costs", "loses", "draw", "or", "and",
        "not", "true", "false", "number", "ones", "looks", "comes");

    /** A fault met while reading. */
    private static final class Fault extends Exception {
        private static final long serialVersionUID = 1L;
        final int sort;
        final int place;

        Fault(int sort, int place) {
            this.sort = sort;
            this.place = place;
        }
    }

    /** What of a goal is faulty: kind 0 .. 3 of place, or nothing by kind -1. */
    private record Change(int kind, int place) { }

    /** A node of a b. */
    private static final class Node {
        String sort = "";
        int number;
        int condition = NONE;
        int within;
        Node left;
        Node right;

        /** Goes through it from the left; way takes what is looked at, number * 2 + what it is found to be. */
        boolean comes(int test, Change change, List<Integer> way) {
            switch (sort) {
                case "not":
                    return !left.comes(test, change, way);
                case "and":
                case "or":
                    boolean isAnd = sort.equals("and") != (change.kind == 0 && change.place == number);
                    boolean first = left.comes(test, change, way);
                    return first != isAnd ? first : right.comes(test, change, way);
                default:
                    boolean is = sort.equals("name") ? (test >> condition & 1) == 1 : sort.equals("true");
                    way.add(number * 2 + (is ? 1 : 0));
                    if (change.kind > 0 && change.place == number) {
                        return change.kind == 1 ? !is : change.kind == 3;
                    }
                    return is;
            }
        }
    }

    /** A node of an e. */
    private static final class Cost {
        String sort = "";
        int value;
        Cost left;
        Cost right;

        int of(int number, int ones, int looks, int comes) {
            switch (sort) {
                case "N":
                    return value;
                case "number":
                    return number;
                case "ones":
                    return ones;
                case "looks":
                    return looks;
                case "comes":
                    return comes;
                case "not":
                    return left.of(number, ones, looks, comes) == 0 ? 1 : 0;
                default:
                    return joined(left.of(number, ones, looks, comes), right.of(number, ones, looks, comes));
            }
        }

        private int joined(int x, int y) {
            switch (sort) {
                case "+":
                    return BigInteger.valueOf(x).add(BigInteger.valueOf(y)).intValue();
                case "-":
                    return BigInteger.valueOf(x).subtract(BigInteger.valueOf(y)).intValue();
                case "*":
                    return BigInteger.valueOf(x).multiply(BigInteger.valueOf(y)).intValue();
                case "/":
                    return y == 0 ? 0 : (int) ((long) x / y);
                case "%":
                    return y == 0 ? 0 : (int) ((long) x % y);
                case "<":
                    return x < y ? 1 : 0;
                case ">":
                    return x > y ? 1 : 0;
                case "=":
                    return x == y ? 1 : 0;
                case "and":
                    return x != 0 && y != 0 ? 1 : 0;
                default:
                    return x != 0 || y != 0 ? 1 : 0;
            }
        }
    }

    /** What a text tells. */
    private static final class Told {
        final List<String> names = new ArrayList<>();
        final List<Node> nevers = new ArrayList<>();
        List<Node> looks = new ArrayList<>();
        Node goal;
        Cost costs;
        int links;
        int units;
        int loses = NONE;
        int draw = NONE;
        boolean goalMet;
        boolean costsMet;
        boolean losesMet;
        boolean drawMet;
    }

    /** Reads a text straight from its signs. */
    private static final class Reading {
        private final String text;
        private final Told told = new Told();
        private int at;
        private int start;
        private String token = "";
        private List<Node> looks = new ArrayList<>();
        private int links;

        Reading(String text) {
            this.text = text;
        }

        /** Takes what comes next: "" at the end; "!" what is no token. */
        private void take() {
            while (at < text.length() && (text.charAt(at) == ' ' || text.charAt(at) == '\n')) {
                at++;
            }
            start = at;
            if (at == text.length()) {
                token = "";
                return;
            }
            String rest = text.substring(at);
            String word = rest.replaceFirst("(?s)^([a-z]*).*", "$1");
            String digits = rest.replaceFirst("(?s)^([0-9]*).*", "$1");
            if (!word.isEmpty()) {
                token = word.length() > 8 ? "!" : word;
                at += word.length();
            } else if (!digits.isEmpty()) {
                boolean letter = rest.length() > digits.length() && rest.substring(digits.length()).matches("(?s)[a-z].*");
                token = digits.length() > 4 || letter ? "!" : digits;
                at += digits.length();
            } else {
                token = ";()<>=+-*/%".indexOf(rest.charAt(0)) >= 0 ? rest.substring(0, 1) : "!";
                at++;
            }
        }

        private Fault wrong(int sort) {
            return new Fault(token.equals("!") ? 1 : sort, start);
        }

        private void want(boolean is) throws Fault {
            if (!is) {
                throw wrong(2);
            }
        }

        private boolean isNumber() {
            return token.matches("[0-9]+");
        }

        private boolean isName() {
            return token.matches("[a-z]+") && !RESERVED.contains(token);
        }

        Told all() throws Fault {
            for (take(); !token.isEmpty(); take()) {
                line();
                want(token.equals(";"));
            }
            if (told.loses == NONE) {
                told.loses = 0;
            }
            if (told.draw == NONE) {
                told.draw = 0;
            }
            return told;
        }

        private void line() throws Fault {
            switch (token) {
                case "cond":
                    want(told.names.size() < 4);
                    take();
                    want(isName());
                    if (told.names.contains(token)) {
                        throw wrong(3);
                    }
                    told.names.add(token);
                    take();
                    break;
                case "goal":
                    want(!told.goalMet);
                    told.goalMet = true;
                    told.goal = whole();
                    told.looks = looks;
                    told.links = links;
                    break;
                case "never":
                    want(told.nevers.size() < 4);
                    told.nevers.add(whole());
                    break;
                case "costs":
                    want(!told.costsMet);
                    told.costsMet = true;
                    take();
                    told.costs = either(0);
                    break;
                case "loses":
                    want(!told.losesMet);
                    told.losesMet = true;
                    told.loses = upTo(100);
                    break;
                case "draw":
                    want(!told.drawMet);
                    told.drawMet = true;
                    told.draw = upTo(999);
                    break;
                default:
                    throw wrong(2);
            }
        }

        private int upTo(int most) throws Fault {
            take();
            want(isNumber());
            int value = Integer.parseInt(token);
            if (value > most) {
                throw wrong(4);
            }
            take();
            return value;
        }

        private Node whole() throws Fault {
            looks = new ArrayList<>();
            links = 0;
            take();
            return any(0);
        }

        private Node any(int within) throws Fault {
            Node node = all(within);
            while (token.equals("or")) {
                node = join("or", node);
                node.right = all(within);
            }
            return node;
        }

        private Node all(int within) throws Fault {
            Node node = own(within);
            while (token.equals("and")) {
                node = join("and", node);
                node.right = own(within);
            }
            return node;
        }

        private Node join(String sort, Node left) {
            Node node = new Node();
            node.sort = sort;
            node.left = left;
            node.number = links++;
            take();
            return node;
        }

        private Node own(int within) throws Fault {
            Node node = new Node();
            if (token.equals("not")) {
                want(within <= 6);
                node.sort = "not";
                take();
                node.left = own(within + 1);
                return node;
            }
            if (token.equals("(")) {
                want(within <= 6);
                take();
                node = any(within + 1);
                want(token.equals(")"));
                take();
                return node;
            }
            boolean isName = isName();
            want(isName || token.equals("true") || token.equals("false"));
            want(looks.size() < 10);
            if (isName && !told.names.contains(token)) {
                throw wrong(5);
            }
            node.sort = isName ? "name" : token;
            node.condition = told.names.indexOf(token);
            node.number = looks.size();
            node.within = within;
            looks.add(node);
            take();
            return node;
        }

        private Cost either(int within) throws Fault {
            Cost cost = both(within);
            while (token.equals("or")) {
                cost = link(cost);
                cost.right = both(within);
            }
            return cost;
        }

        private Cost both(int within) throws Fault {
            Cost cost = one(within);
            while (token.equals("and")) {
                cost = link(cost);
                cost.right = one(within);
            }
            return cost;
        }

        private Cost link(Cost left) {
            Cost cost = new Cost();
            cost.sort = token;
            cost.left = left;
            take();
            return cost;
        }

        private Cost one(int within) throws Fault {
            if (token.equals("not")) {
                want(within <= 6);
                Cost cost = new Cost();
                cost.sort = "not";
                take();
                cost.left = one(within + 1);
                return cost;
            }
            Cost cost = sum(within);
            if (token.matches("[<>=]")) {
                cost = link(cost);
                cost.right = sum(within);
            }
            return cost;
        }

        private Cost sum(int within) throws Fault {
            Cost cost = term(within);
            while (token.matches("[+-]")) {
                cost = link(cost);
                cost.right = term(within);
            }
            return cost;
        }

        private Cost term(int within) throws Fault {
            Cost cost = unit(within);
            while (token.matches("[*/%]")) {
                cost = link(cost);
                cost.right = unit(within);
            }
            return cost;
        }

        private Cost unit(int within) throws Fault {
            boolean plain = isNumber() || token.matches("number|ones|looks|comes");
            want(plain || token.equals("("));
            want(told.units < 30);
            told.units++;
            Cost cost = new Cost();
            if (plain) {
                cost.sort = isNumber() ? "N" : token;
                cost.value = isNumber() ? Integer.parseInt(token) : 0;
                take();
                return cost;
            }
            want(within <= 6);
            take();
            cost = either(within + 1);
            want(token.equals(")"));
            take();
            return cost;
        }
    }

    private static final Change NOTHING = new Change(NONE, NONE);

    /** A log with its seed. */
    private record State(Set<Integer> log, int seed) { }

    /** An outcome seen. */
    private static final class Sight {
        int test;
        boolean is;
        int told;
        int untold = NONE;
    }

    private final StringBuilder tape = new StringBuilder();
    private Told told = new Told();
    private int faultSort;
    private int faultPlace = NONE;
    private State state;
    private final List<State> before = new ArrayList<>();
    private final List<State> behind = new ArrayList<>();
    private State[] boxes = new State[3];
    private final List<Sight> sights = new ArrayList<>();
    private int time;

    Oracle() {
        told.loses = 0;
        told.draw = 0;
        state = new State(new TreeSet<>(), 0);
    }

    // ---- the text

    public int feed(int a, int b, int c, int d, int e) {
        if (tape.length() + 20 > 1600) {
            return NONE;
        }
        for (int n : new int[] {a, b, c, d, e}) {
            tape.append((char) (n >> 24 & 255)).append((char) (n >> 16 & 255));
            tape.append((char) (n >> 8 & 255)).append((char) (n & 255));
        }
        return tape.length();
    }

    public int end(int n) {
        if (n < 0 || n > tape.length()) {
            return NONE;
        }
        tape.setLength(n);
        return n;
    }

    public int decision() {
        faultSort = 0;
        faultPlace = NONE;
        try {
            told = new Reading(tape.toString()).all();
        } catch (Fault fault) {
            faultSort = fault.sort;
            faultPlace = fault.place;
        }
        tape.setLength(0);
        if (faultSort != 0) {
            return NONE;
        }
        state = new State(new TreeSet<>(), told.draw);
        before.clear();
        behind.clear();
        boxes = new State[3];
        sights.clear();
        return told.names.size();
    }

    public int fault(int what) {
        return what == 0 ? faultSort : what == 1 ? faultPlace : NONE;
    }

    // ---- what a test does

    private int tests() {
        return 1 << told.names.size();
    }

    private boolean isTest(int t) {
        return t >= 0 && t < tests();
    }

    private boolean isCond(int c) {
        return c >= 0 && c < told.names.size();
    }

    private static boolean isForm(int f) {
        return f >= 0 && f <= 2;
    }

    private static boolean isPart(int what) {
        return what == 0 || what == 1;
    }

    private boolean comes(int t, Change change) {
        return told.goal != null && told.goal.comes(t, change, new ArrayList<>());
    }

    private boolean comes(int t) {
        return comes(t, NOTHING);
    }

    private List<Integer> way(int t) {
        List<Integer> way = new ArrayList<>();
        if (told.goal != null) {
            told.goal.comes(t, NOTHING, way);
        }
        return way;
    }

    private boolean lookedAt(int look, int t) {
        return way(t).contains(look * 2) || way(t).contains(look * 2 + 1);
    }

    private boolean conditionLookedAt(int cond, int t) {
        for (Node look : told.looks) {
            if (look.condition == cond && lookedAt(look.number, t)) {
                return true;
            }
        }
        return false;
    }

    private boolean can(int t) {
        for (Node never : told.nevers) {
            if (never.comes(t, NOTHING, new ArrayList<>())) {
                return false;
            }
        }
        return true;
    }

    private boolean sways(int cond, int t) {
        return comes(t) != comes(t ^ 1 << cond);
    }

    private int cost(int t) {
        int cost = told.costs == null ? 1 : told.costs.of(t, Integer.bitCount(t), way(t).size(), comes(t) ? 1 : 0);
        return cost < 0 ? 0 : cost > 99 ? 99 : cost;
    }

    private static int bits(Iterable<Integer> set) {
        int bits = 0;
        for (int i : set) {
            bits |= 1 << i;
        }
        return bits;
    }

    private List<Integer> canTests() {
        List<Integer> list = new ArrayList<>();
        for (int t = 0; t < tests(); t++) {
            if (can(t)) {
                list.add(t);
            }
        }
        return list;
    }

    public int test(int t, int what) {
        if (!isTest(t)) {
            return NONE;
        }
        List<Integer> looked = new ArrayList<>();
        for (int step : way(t)) {
            looked.add(step / 2);
        }
        List<Integer> swayers = new ArrayList<>();
        for (int c = 0; c < told.names.size(); c++) {
            if (sways(c, t)) {
                swayers.add(c);
            }
        }
        switch (what) {
            case 0:
                return comes(t) ? 1 : 0;
            case 1:
                return can(t) ? 1 : 0;
            case 2:
                return bits(looked);
            case 3:
                return looked.size();
            case 4:
                return cost(t);
            case 5:
                return bits(swayers);
            case 6:
                return state.log.contains(t) ? 1 : 0;
            default:
                return NONE;
        }
    }

    public int look(int look, int what) {
        if (look < 0 || look >= told.looks.size() || !isPart(what)) {
            return -2;
        }
        return what == 0 ? told.looks.get(look).condition : told.looks.get(look).within;
    }

    // ---- pairs and what is covered

    private boolean isPair(int cond, int x, int y, int form, boolean lawful) {
        if (!lawful && (!can(x) || !can(y)) || (x >> cond & 1) == (y >> cond & 1) || comes(x) == comes(y)) {
            return false;
        }
        for (int c = 0; c < told.names.size(); c++) {
            boolean alike = (x >> c & 1) == (y >> c & 1);
            if (form == 0 && c != cond && !alike) {
                return false;
            }
            if (form == 2 && c != cond && !alike && conditionLookedAt(c, x) && conditionLookedAt(c, y)) {
                return false;
            }
        }
        if (form == 1) {
            return sways(cond, x) && sways(cond, y);
        }
        return form == 0 || conditionLookedAt(cond, x) && conditionLookedAt(cond, y);
    }

    private boolean[][][][] known;
    private Told knownOf;

    /** Pairs kept by decision, for the searches below ask for them again and again. */
    private boolean isPair(int cond, int x, int y, int form) {
        if (knownOf != told) {
            knownOf = told;
            known = new boolean[3][told.names.size()][tests()][tests()];
            for (int f = 0; f < 3; f++) {
                for (int c = 0; c < told.names.size(); c++) {
                    for (int i = 0; i < tests() * tests(); i++) {
                        known[f][c][i / tests()][i % tests()] = isPair(c, i / tests(), i % tests(), f, false);
                    }
                }
            }
        }
        return known[form][cond][x][y];
    }

    public int pair(int cond, int x, int y, int form) {
        if (!isCond(cond) || !isTest(x) || !isTest(y) || !isForm(form)) {
            return NONE;
        }
        return isPair(cond, x, y, form) ? 1 : 0;
    }

    public int partners(int cond, int x, int form) {
        if (!isCond(cond) || !isTest(x) || !isForm(form)) {
            return NONE;
        }
        List<Integer> list = new ArrayList<>();
        for (int y = 0; y < tests(); y++) {
            if (isPair(cond, x, y, form)) {
                list.add(y);
            }
        }
        return bits(list);
    }

    public int pairs(int cond, int form) {
        if (!isCond(cond) || !isForm(form)) {
            return NONE;
        }
        int count = 0;
        for (int x = 0; x < tests(); x++) {
            for (int y = x + 1; y < tests(); y++) {
                count += isPair(cond, x, y, form) ? 1 : 0;
            }
        }
        return count;
    }

    private int coveredBy(int set, int form) {
        List<Integer> list = new ArrayList<>();
        for (int c = 0; c < told.names.size(); c++) {
            boolean holds = false;
            for (int x = 0; x < tests() && !holds; x++) {
                for (int y = x + 1; y < tests() && !holds; y++) {
                    holds = (set >> x & 1) == 1 && (set >> y & 1) == 1 && isPair(c, x, y, form);
                }
            }
            if (holds) {
                list.add(c);
            }
        }
        return bits(list);
    }

    private int every() {
        return bits(canTests());
    }

    private int log() {
        return bits(state.log);
    }

    public int possible() {
        return every();
    }

    public int truths() {
        List<Integer> list = new ArrayList<>();
        for (int t = 0; t < tests(); t++) {
            if (comes(t)) {
                list.add(t);
            }
        }
        return bits(list);
    }

    public int covers(int set, int form) {
        if (!isForm(form) || set < 0 || (long) set >= 1L << tests()) {
            return NONE;
        }
        return coveredBy(set, form);
    }

    public int coverable(int form) {
        return isForm(form) ? coveredBy(every(), form) : NONE;
    }

    public int covered(int form) {
        return isForm(form) ? coveredBy(log(), form) : NONE;
    }

    public int percent(int form) {
        if (!isForm(form)) {
            return NONE;
        }
        int all = Integer.bitCount(coverable(form));
        return all == 0 ? 100 : 100 * Integer.bitCount(covered(form)) / all;
    }

    /** Of sets of tests that can be the one that is enough, by cost if told, then by number, then the least. */
    private int bestSet(java.util.function.IntPredicate enough, boolean byCost) {
        int best = NONE;
        long bestWeight = Long.MAX_VALUE;
        for (int set = 0; set <= every(); set++) {
            long weight = Integer.bitCount(set) + (byCost ? 1000L * costOf(set) : 0);
            if ((set & ~every()) == 0 && weight < bestWeight && enough.test(set)) {
                best = set;
                bestWeight = weight;
            }
        }
        return best;
    }

    private int[] costs;
    private Told costsOf;

    private int costOf(int set) {
        if (costsOf != told) {
            costsOf = told;
            costs = new int[tests()];
            for (int t = 0; t < tests(); t++) {
                costs[t] = cost(t);
            }
        }
        int sum = 0;
        for (int t = 0; t < tests(); t++) {
            sum += (set >> t & 1) == 1 ? costs[t] : 0;
        }
        return sum;
    }

    public int least(int form, int what) {
        if (!isForm(form) || !isPart(what)) {
            return NONE;
        }
        int all = coverable(form);
        int set = bestSet(s -> coveredBy(s, form) == all, false);
        return what == 0 ? Integer.bitCount(set) : set;
    }

    public int cheapest(int form, int what) {
        if (!isForm(form) || !isPart(what)) {
            return NONE;
        }
        int all = coverable(form);
        int set = bestSet(s -> coveredBy(s, form) == all, true);
        return what == 0 ? costOf(set) : set;
    }

    public int more(int form, int what) {
        if (!isForm(form) || !isPart(what)) {
            return NONE;
        }
        int all = coverable(form);
        int log = log();
        int set = bestSet(s -> coveredBy(s | log, form) == all, false);
        return what == 0 ? Integer.bitCount(set) : set;
    }

    public int next(int form) {
        if (!isForm(form)) {
            return NONE;
        }
        int best = NONE;
        int most = NONE;
        for (int t : canTests()) {
            int count = Integer.bitCount(coveredBy(log() | 1 << t, form));
            if (!state.log.contains(t) && count > most) {
                best = t;
                most = count;
            }
        }
        return best;
    }

    public int needless(int form) {
        if (!isForm(form)) {
            return NONE;
        }
        List<Integer> list = new ArrayList<>();
        for (int t : state.log) {
            Set<Integer> rest = new TreeSet<>(state.log);
            rest.remove(t);
            if (Integer.bitCount(coveredBy(bits(rest), form)) == Integer.bitCount(covered(form))) {
                list.add(t);
            }
        }
        return bits(list);
    }

    // ---- acts

    private void act(State next) {
        before.add(state);
        if (before.size() > 40) {
            before.remove(0);
        }
        behind.clear();
        state = next;
    }

    public int run(int t) {
        if (!isTest(t) || !can(t)) {
            return NONE;
        }
        int seed = (state.seed * 137 + 71) % 1000;
        Set<Integer> log = new TreeSet<>(state.log);
        if (seed % 100 >= told.loses) {
            log.add(t);
        }
        act(new State(log, seed));
        return log();
    }

    public int drop(int t) {
        if (!state.log.contains(t)) {
            return NONE;
        }
        Set<Integer> log = new TreeSet<>(state.log);
        log.remove(t);
        act(new State(log, state.seed));
        return log();
    }

    public int merge(int box) {
        if (box < 0 || box > 2 || boxes[box] == null) {
            return NONE;
        }
        Set<Integer> log = new TreeSet<>(state.log);
        log.addAll(boxes[box].log);
        act(new State(log, state.seed));
        return log();
    }

    public boolean undo() {
        if (before.isEmpty()) {
            return false;
        }
        behind.add(state);
        state = before.remove(before.size() - 1);
        return true;
    }

    public boolean redo() {
        if (behind.isEmpty()) {
            return false;
        }
        before.add(state);
        state = behind.remove(behind.size() - 1);
        return true;
    }

    public int image(int box) {
        if (box < 0 || box > 2) {
            return NONE;
        }
        boxes[box] = state;
        return log();
    }

    public int back(int box) {
        if (box < 0 || box > 2 || boxes[box] == null) {
            return NONE;
        }
        state = boxes[box];
        before.clear();
        behind.clear();
        return log();
    }

    // ---- how conditions and looks are

    public int sway(int cond) {
        if (!isCond(cond)) {
            return NONE;
        }
        int count = 0;
        for (int t = 0; t < tests(); t++) {
            count += sways(cond, t) ? 1 : 0;
        }
        return count;
    }

    public int couple(int x, int y) {
        if (!isCond(x) || !isCond(y)) {
            return NONE;
        }
        boolean alike = true;
        boolean unlike = true;
        for (int t : canTests()) {
            alike &= (t >> x & 1) == (t >> y & 1);
            unlike &= (t >> x & 1) != (t >> y & 1);
        }
        return alike && unlike ? 3 : alike ? 1 : unlike ? 2 : 0;
    }

    public int fixed(int cond) {
        Set<Integer> found = new HashSet<>();
        for (int t : canTests()) {
            found.add(t >> cond & 1);
        }
        return isCond(cond) && found.size() == 1 ? found.iterator().next() : NONE;
    }

    public int dead() {
        List<Integer> list = new ArrayList<>();
        for (int look = 0; look < told.looks.size(); look++) {
            boolean dead = true;
            for (int t : canTests()) {
                dead &= !lookedAt(look, t);
            }
            if (dead) {
                list.add(look);
            }
        }
        return bits(list);
    }

    public int halves() {
        List<Integer> list = new ArrayList<>();
        Set<Integer> found = new HashSet<>();
        for (int t : state.log) {
            found.addAll(way(t));
        }
        for (int look = 0; look < told.looks.size(); look++) {
            if (found.contains(look * 2) && found.contains(look * 2 + 1)) {
                list.add(look);
            }
        }
        return bits(list);
    }

    public int ways() {
        Set<List<Integer>> ways = new HashSet<>();
        for (int t : canTests()) {
            ways.add(way(t));
        }
        return ways.size();
    }

    private static int lowest(BigInteger upper, BigInteger lower, int part) {
        BigInteger divisor = upper.gcd(lower);
        return (part == 0 ? upper : lower).divide(divisor).intValue();
    }

    public int mean(int part) {
        if (!isPart(part)) {
            return NONE;
        }
        int sum = 0;
        for (int t : canTests()) {
            sum += way(t).size();
        }
        if (canTests().isEmpty()) {
            return part;
        }
        return lowest(BigInteger.valueOf(sum), BigInteger.valueOf(canTests().size()), part);
    }

    public int odds(int n, int part) {
        if (n < 0 || n > 4 || !isPart(part)) {
            return NONE;
        }
        return lowest(BigInteger.valueOf(100 - told.loses).pow(n), BigInteger.valueOf(100).pow(n), part);
    }

    // ---- faulty goals

    private List<Change> changes() {
        List<Change> list = new ArrayList<>();
        for (int i = 0; i < told.links; i++) {
            list.add(new Change(0, i));
        }
        for (int i = 0; i < told.looks.size(); i++) {
            list.add(new Change(1, i));
        }
        for (int i = 0; i < told.looks.size(); i++) {
            list.add(new Change(2, i));
            list.add(new Change(3, i));
        }
        return list;
    }

    private boolean isShown(Change change, int t) {
        return can(t) && comes(t, change) != comes(t);
    }

    public int faulties() {
        return changes().size();
    }

    public int faulty(int f, int what) {
        if (f < 0 || f >= faulties() || !isPart(what)) {
            return NONE;
        }
        return what == 0 ? changes().get(f).kind : changes().get(f).place;
    }

    public int shows(int f) {
        if (f < 0 || f >= faulties()) {
            return NONE;
        }
        List<Integer> list = new ArrayList<>();
        for (int t = 0; t < tests(); t++) {
            if (isShown(changes().get(f), t)) {
                list.add(t);
            }
        }
        return bits(list);
    }

    public int shown(int t) {
        if (!isTest(t)) {
            return NONE;
        }
        int count = 0;
        for (Change change : changes()) {
            count += isShown(change, t) ? 1 : 0;
        }
        return count;
    }

    public int alive(int what) {
        if (!isPart(what)) {
            return NONE;
        }
        int count = 0;
        for (int f = 0; f < faulties(); f++) {
            count += (shows(f) & (what == 0 ? log() : every())) == 0 ? 1 : 0;
        }
        return count;
    }

    public int killers(int what) {
        if (!isPart(what)) {
            return NONE;
        }
        List<Integer> showers = new ArrayList<>();
        for (int f = 0; f < faulties(); f++) {
            if (shows(f) != 0) {
                showers.add(shows(f));
            }
        }
        int set = bestSet(s -> showers.stream().allMatch(shower -> (shower & s) != 0), false);
        return what == 0 ? Integer.bitCount(set) : set;
    }

    public int exchange(int look, int other) {
        if (look < 0 || look >= told.looks.size() || other < 0 || other >= told.looks.size()) {
            return NONE;
        }
        Node x = told.looks.get(look);
        Node y = told.looks.get(other);
        if (x.condition == NONE || y.condition == NONE) {
            return NONE;
        }
        int as = truths();
        int kept = x.condition;
        x.condition = y.condition;
        y.condition = kept;
        boolean same = truths() == as;
        y.condition = x.condition;
        x.condition = kept;
        return same ? 1 : 0;
    }

    public int law(int form) {
        if (!isForm(form)) {
            return NONE;
        }
        int count = 0;
        for (int c = 0; c < told.names.size(); c++) {
            boolean holds = false;
            for (int i = 0; i < tests() * tests(); i++) {
                holds |= isPair(c, i / tests(), i % tests(), form, true);
            }
            count += holds ? 1 : 0;
        }
        return count;
    }

    // ---- which fault there is

    public int seen(int t, boolean is) {
        if (!isTest(t) || sights.size() == 30) {
            return NONE;
        }
        Sight sight = new Sight();
        sight.test = t;
        sight.is = is;
        sight.told = time;
        sights.add(sight);
        return sights.size() - 1;
    }

    public boolean untell(int i) {
        if (i < 0 || i >= sights.size() || sights.get(i).untold != NONE) {
            return false;
        }
        sights.get(i).untold = time;
        return true;
    }

    public int later(int by) {
        if (by < 0 || by > 1000 || time + by > 100000) {
            return NONE;
        }
        time += by;
        return time;
    }

    private List<Integer> fitting(int k) {
        List<Change> all = changes();
        all.add(0, NOTHING);
        List<Integer> list = new ArrayList<>();
        for (int i = 0; i < all.size(); i++) {
            boolean fits = true;
            for (Sight sight : sights) {
                boolean counts = sight.told <= k && (sight.untold == NONE || sight.untold > k);
                fits &= !counts || comes(sight.test, all.get(i)) == sight.is;
            }
            if (fits) {
                list.add(i - 1);
            }
        }
        return list;
    }

    public int fits(int k) {
        return fitting(k).size();
    }

    public int culprit(int i, int k) {
        return i < 0 || i >= fits(k) ? -2 : fitting(k).get(i);
    }

    public int ask(int what, int k) {
        if (fits(k) == 0 || !isPart(what)) {
            return NONE;
        }
        int best = NONE;
        int fewest = NONE;
        for (int t : canTests()) {
            int ones = 0;
            for (int f : fitting(k)) {
                ones += comes(t, f == NONE ? NOTHING : changes().get(f)) ? 1 : 0;
            }
            int most = Math.max(ones, fits(k) - ones);
            if (best == NONE || most < fewest) {
                best = t;
                fewest = most;
            }
        }
        return what == 0 ? best : fewest;
    }

    public int about(int what) {
        int[] all = {told.names.size(), told.looks.size(), log(), told.nevers.size(), told.links, state.seed,
            before.size(), behind.size(), sights.size(), time, tape.length(), told.units, told.loses};
        return what < 0 || what >= all.length ? NONE : all[what];
    }
}
