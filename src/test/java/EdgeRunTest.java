import java.math.BigInteger;

/** Edges of part 2 of the Terms and of promises 6, 7, 11 to 15, 31, 42, 49 to 51: tests, costs, the log, acts, boxes. */
public final class EdgeRunTest {
    private static final Edge edge = new Edge();
    // 0 and on: the seeds from draw 0 on
    private static final int[] SEEDS = new int[120];

    public static void main(String[] args) {
        for (int n = 1; n < SEEDS.length; n++) {
            SEEDS[n] = (SEEDS[n - 1] * 137 + 71) % 1000;
        }
        testsThereAre();
        whatOfATest();
        canBe();
        lookedAt();
        looksThereAre();
        costUntold();
        costWithin();
        costWraps();
        costBy0();
        costOfTruth();
        logAtFirst();
        seedGoesOn();
        lostByLess();
        runRefused();
        dropRefused();
        mergeRefused();
        undoRefused();
        tillAnotherAct();
        fortyAreKept();
        boxes();
        backRefused();
        decisionEmpties();
        halvesEmpty();
        odds();
        about();
        edge.end("EdgeRunTest");
    }

    private static void due(String call, long got, long want) {
        edge.due(call, got, want);
    }

    private static void due(String call, boolean got, boolean want) {
        edge.due(call, got, want);
    }

    private static void state(String call, FlipCover x, int log, int seed, int undoable, int redoable) {
        due(call + ": log", x.about(2), log);
        due(call + ": seed", x.about(5), seed);
        due(call + ": can be undone", x.about(6), undoable);
        due(call + ": can be redone", x.about(7), redoable);
    }

    private static int all(int n) {
        return (1 << (1 << n)) - 1;
    }

    private static void testsThereAre() {
        for (int n = 0; n <= 4; n++) {
            edge.of("2: there is one for each way (without CONDITIONS just 0)");
            int last = (1 << n) - 1;
            FlipCover x = Bench.of(Edge.conds(n));
            due(n + " conditions, possible", x.possible(), all(n));
            for (int t = 0; t <= last; t++) {
                due(n + " conditions, test " + t, x.test(t, 1), 1);
            }
            due(n + " conditions, true by the last", Bench.of(Edge.conds(n) + "goal true;").truths(), all(n));
            edge.of("6, 11, 12, 37, 43: if there is none such");
            refusedTest(x, last + 1);
            refusedTest(x, -1);
            refusedTest(x, last + 33);
            for (int far : Edge.FAR) {
                refusedTest(x, far);
            }
            state("nothing done by them, " + n, x, 0, 0, 0, 0);
            due("nothing seen by them, " + n, x.about(8), 0);
            due("the last is run, " + n, x.run(last), 1 << last);
            due("the last is seen, " + n, x.seen(last, true), 0);
            due("the last is shown, " + n, x.shown(last), 0);
            due("the last is taken out, " + n, x.drop(last), 0);
        }
    }

    private static void refusedTest(FlipCover x, int t) {
        for (int what = -1; what <= 7; what++) {
            due("test " + t + " " + what, x.test(t, what), -1);
        }
        due("run " + t, x.run(t), -1);
        due("drop " + t, x.drop(t), -1);
        due("shown " + t, x.shown(t), -1);
        due("seen " + t, x.seen(t, true), -1);
        for (int form = 0; form < 3; form++) {
            due("partners " + t, x.partners(0, t, form), -1);
            due("pair " + t, x.pair(0, t, 0, form), -1);
            due("pair, other " + t, x.pair(0, 0, t, form), -1);
        }
    }

    private static void whatOfATest() {
        edge.of("6: NONE for another what");
        FlipCover x = Bench.of("cond a;goal a;");
        for (int t = 0; t < 2; t++) {
            for (int what = 0; what <= 6; what++) {
                due("what " + what, x.test(t, what) >= 0, true);
            }
            due("what 7", x.test(t, 7), -1);
            due("what -1", x.test(t, -1), -1);
            for (int far : Edge.FAR) {
                due("what " + far, x.test(t, far), -1);
            }
        }
        edge.of("6: 6: 1 if it is in the LOG, else 0");
        due("not", x.test(1, 6), 0);
        x.run(1);
        due("in it", x.test(1, 6), 1);
        due("another one", x.test(0, 6), 0);
    }

    private static void canBe() {
        edge.of("2: It CAN BE, if none of never is true by it");
        due("none told", Bench.of(Edge.conds(4)).possible(), 0xFFFF);
        due("none true by one", Bench.of(Edge.conds(4) + "never false;").possible(), 0xFFFF);
        for (int t = 0; t < 16; t++) {
            String one = Edge.conds(4) + "goal true;never ";
            for (int c = 0; c < 4; c++) {
                one += (c > 0 ? " and " : "") + ((t >> c & 1) == 1 ? "" : "not ") + Edge.NAMES[c];
            }
            FlipCover x = Bench.of(one + ";");
            due("all but " + t, x.possible(), 0xFFFF & ~(1 << t));
            due("comes to 1 though it can't be, " + t, x.test(t, 0), 1);
            due("can't be, " + t, x.test(t, 1), 0);
            due("is not run, " + t, x.run(t), -1);
            due("the log, " + t, x.about(2), 0);
            due("is shown none, " + t, x.shown(t), 0);
            due("is seen, " + t, x.seen(t, true), 0);
            x = Bench.of(one.replace("never ", "never not (") + ");");
            due("none but " + t, x.possible(), 1 << t);
            due("that one is run, " + t, x.run(t), 1 << t);
        }
        FlipCover x = Bench.of("never true;");
        due("none, without conditions", x.possible(), 0);
        due("none is run", x.run(0), -1);
    }

    private static void lookedAt() {
        edge.of("2: of x and y y is looked at only if x is true, of x or y only if x is false");
        FlipCover x = Bench.of("cond a;cond b;goal a and b;");
        due("a and b, a false", x.test(0, 2), 1);
        due("a and b, a true", x.test(1, 2), 3);
        x = Bench.of("cond a;cond b;goal a or b;");
        due("a or b, a false", x.test(0, 2), 3);
        due("a or b, a true", x.test(1, 2), 1);
        x = Bench.of("cond a;cond b;goal not a and b;");
        due("not a and b, a false", x.test(0, 2), 3);
        due("not a and b, a true", x.test(1, 2), 1);
        x = Bench.of("cond a;cond b;goal a and b or a;");
        due("chains, neither", x.test(0, 2), 5);
        due("chains, a", x.test(1, 2), 7);
        due("chains, both", x.test(3, 2), 3);
        String ten = "goal a and a and a and a and a and a and a and a and a and a;";
        due("ten, none but the first", Bench.of("cond a;" + ten).test(0, 3), 1);
        due("ten, all", Bench.of("cond a;" + ten).test(1, 3), 10);
        due("ten, all, which", Bench.of("cond a;" + ten).test(1, 2), 1023);
        edge.of("2: without a goal to 0, nothing is looked at");
        x = Bench.of("cond a;never false;");
        for (int t = 0; t < 2; t++) {
            due("comes " + t, x.test(t, 0), 0);
            due("looks " + t, x.test(t, 2), 0);
            due("how many " + t, x.test(t, 3), 0);
            due("sways " + t, x.test(t, 5), 0);
        }
        due("looks", x.about(1), 0);
        due("no look 0", x.look(0, 0), -2);
    }

    private static void looksThereAre() {
        edge.of("7: -2 if there is none such, or for another what");
        for (int n = 1; n <= 10; n++) {
            FlipCover x = Bench.of("cond a;goal a" + " and a".repeat(n - 1) + ";");
            due("the last of " + n, x.look(n - 1, 0), 0);
            due("within, the last of " + n, x.look(n - 1, 1), 0);
            for (int what = -1; what <= 2; what++) {
                due("one more than " + n + ", what " + what, x.look(n, what), -2);
                due("-1 of " + n + ", what " + what, x.look(-1, what), -2);
                for (int far : Edge.FAR) {
                    due(far + " of " + n + ", what " + what, x.look(far, what), -2);
                }
            }
            due("what 2 of " + n, x.look(0, 2), -2);
            due("what -1 of " + n, x.look(0, -1), -2);
            for (int far : Edge.FAR) {
                due("what " + far, x.look(0, far), -2);
            }
        }
        edge.of("7: 0: its CONDITION (NONE: true, false)");
        FlipCover x = Bench.of(Edge.conds(4) + "goal true and d or false and a;");
        int[] want = {-1, 3, -1, 0};
        for (int look = 0; look < 4; look++) {
            due("look " + look, x.look(look, 0), want[look]);
        }
    }

    private static int cost(String e, int test) {
        return Bench.of("cond a;cond b;goal a and b;costs " + e + ";").test(test, 4);
    }

    private static void costUntold() {
        edge.of("2: COST: 1, if it is not told");
        for (int n = 0; n <= 4; n++) {
            FlipCover x = Bench.of(Edge.conds(n) + "goal true;");
            for (int t = 0; t < 1 << n; t++) {
                due("test " + t, x.test(t, 4), 1);
            }
        }
        due("told 0", cost("0", 0), 0);
        edge.of("2: number (its), ones, looks, comes");
        FlipCover x = Bench.of(Edge.conds(4) + "goal a and b or c and d;costs number;");
        FlipCover y = Bench.of(Edge.conds(4) + "goal a and b or c and d;costs ones;");
        FlipCover z = Bench.of(Edge.conds(4) + "goal a and b or c and d;costs looks * 10 + comes;");
        int[] looks = {2, 3, 2, 2, 3, 4, 3, 2, 2, 3, 2, 2, 3, 4, 3, 2};
        for (int t = 0; t < 16; t++) {
            due("number " + t, x.test(t, 4), t);
            due("ones " + t, y.test(t, 4), Integer.bitCount(t));
            due("looks, comes " + t, z.test(t, 4), looks[t] * 10 + (t % 4 == 3 || t >= 12 ? 1 : 0));
        }
    }

    private static void costWithin() {
        edge.of("2: 0 at least, 99 at most");
        for (int n = 0; n <= 9999; n += n < 120 ? 1 : 173) {
            due("" + n, cost("" + n, 0), Math.min(99, n));
            due("-" + n, cost("0 - " + n, 0), 0);
        }
        due("98", cost("99 - 1", 0), 98);
        due("99", cost("100 - 1", 0), 99);
        due("100", cost("99 + 1", 0), 99);
        due("1", cost("0 - 1 + 2", 0), 1);
        due("0", cost("0 - 1 + 1", 0), 0);
        due("-1", cost("0 - 2 + 1", 0), 0);
        edge.of("2: within 0 .. 99 is what comes of all, not of its parts");
        due("above, then not", cost("1000 - 990", 0), 10);
        due("below, then not", cost("(0 - 5) * (0 - 3)", 0), 15);
        due("each test's own", cost("(number - 1) * 100", 0), 0);
        due("each test's own", cost("(number - 1) * 100", 1), 0);
        due("each test's own", cost("(number - 1) * 100", 2), 99);
    }

    private static void costWraps() {
        edge.of("2: ints, wrapping");
        String least = "(4096 * 4096 * 128)";
        String most = "(4096 * 4096 * 128 - 1)";
        due("the least is below 0", cost(least + " < 0", 0), 1);
        due("the least less 1 is above 0", cost(least + " - 1 > 0", 0), 1);
        due("the least less 1 is the most", cost(least + " - 1 = " + most, 0), 1);
        due("the most is above 0", cost(most + " > 0", 0), 1);
        due("the most is 99", cost(most, 0), 99);
        due("the most and 1 is 0", cost(most + " + 1", 0), 0);
        due("the most and 1 is the least", cost(most + " + 1 = " + least, 0), 1);
        due("0 less the least is the least", cost("0 - " + least + " = " + least, 0), 1);
        due("the least twice is 0", cost(least + " + " + least + " = 0", 0), 1);
        due("the least by 2", cost(least + " * 2 = 0", 0), 1);
        due("the most by 2 is -2", cost(most + " * 2 + 7", 0), 5);
        due("the most by the most is 1", cost(most + " * " + most, 0), 1);
        due("65536 by 65536", cost("4096 * 16 * 4096 * 16 + 3", 0), 3);
        int power = 9999 * 9999 * 9999;
        due("9999 thrice", cost("9999 * 9999 * 9999 % 100 + 50", 0), Math.max(0, Math.min(99, power % 100 + 50)));
        due("the least by -1 is the least", cost(least + " / (0 - 1) = " + least, 0), 1);
        due("its rest is 0", cost(least + " % (0 - 1) = 0", 0), 1);
        due("relations of what wrapped", cost(most + " + 1 < " + least + " + 1", 0), 1);
    }

    private static void costBy0() {
        edge.of("2: / cut, % its rest, both by 0: 0");
        for (String zero : new String[] {"0", "(1 - 1)", "comes", "number"}) {
            due("7 / " + zero, cost("7 / " + zero, 0), 0);
            due("7 % " + zero, cost("7 % " + zero, 0), 0);
            due("0 / " + zero, cost("0 / " + zero, 0), 0);
            due("0 % " + zero, cost("0 % " + zero, 0), 0);
            due("5 and 7 / " + zero, cost("5 + 7 / " + zero, 0), 5);
            due("by 0, by 3", cost("9 + 7 / " + zero + " * 3", 0), 9);
            due("the least by " + zero, cost("4096 * 4096 * 128 / " + zero + " = 0", 0), 1);
            due("below 0 by " + zero, cost("(0 - 7) % " + zero + " + 4", 0), 4);
        }
        for (int x = -7; x <= 7; x++) {
            for (int y = -3; y <= 3; y++) {
                String e = "(" + (x + 20) + " - 20)";
                String by = "(" + (y + 20) + " - 20)";
                due(x + " / " + y, cost(e + " / " + by + " + 50", 0), y == 0 ? 50 : x / y + 50);
                due(x + " % " + y, cost(e + " % " + by + " + 50", 0), y == 0 ? 50 : x % y + 50);
                // 5 and it, for what is below 0 is 0 as a cost
                due(x + " < " + y, cost("5 + (" + e + " < " + by + ")", 0), x < y ? 6 : 5);
                due(x + " > " + y, cost("5 + (" + e + " > " + by + ")", 0), x > y ? 6 : 5);
                due(x + " = " + y, cost("5 + (" + e + " = " + by + ")", 0), x == y ? 6 : 5);
            }
        }
    }

    private static void costOfTruth() {
        edge.of("2: relations, and, or, not are 1 or 0, of what is not 0");
        int[] values = {-3, -1, 0, 1, 2, 99};
        for (int x : values) {
            String e = "(" + (x + 20) + " - 20)";
            due("not " + x, cost("5 + (not " + e + ")", 0), x == 0 ? 6 : 5);
            due("not not " + x, cost("5 + (not not " + e + ")", 0), x == 0 ? 5 : 6);
            for (int y : values) {
                String by = "(" + (y + 20) + " - 20)";
                due(x + " and " + y, cost("5 + (" + e + " and " + by + ")", 0), x != 0 && y != 0 ? 6 : 5);
                due(x + " or " + y, cost("5 + (" + e + " or " + by + ")", 0), x != 0 || y != 0 ? 6 : 5);
                due(x + " and not " + y, cost("5 + (" + e + " and not " + by + ")", 0), x != 0 && y == 0 ? 6 : 5);
            }
        }
    }

    private static void logAtFirst() {
        edge.of("2: The LOG: TESTS that were RUN (none, at first); the SEED (draw, at first)");
        state("a new object", new FlipCover(), 0, 0, 0, 0);
        for (int draw : new int[] {0, 1, 998, 999}) {
            state("draw " + draw, Bench.of("cond a;draw " + draw + ";"), 0, draw, 0, 0);
        }
    }

    private static void seedGoesOn() {
        edge.of("2: the SEED becomes its 137-fold and 71 more, modulo 1,000");
        for (int draw = 0; draw <= 999; draw++) {
            FlipCover x = Bench.of("draw " + draw + ";");
            x.run(0);
            due("from " + draw, x.about(5), (draw * 137 + 71) % 1000);
        }
        edge.of("2: the SEED of a RUN alone goes on");
        FlipCover x = Bench.of("cond a;");
        x.run(0);
        x.image(0);
        x.run(1);
        due("two runs", x.about(5), SEEDS[2]);
        x.drop(1);
        x.merge(0);
        due("a drop, a merge", x.about(5), SEEDS[2]);
    }

    private static void lostByLess() {
        edge.of("2: if its rest by 100 is less than loses tells, it is lost, else it is in the LOG");
        for (int draw = 0; draw <= 999; draw++) {
            int rest = (draw * 137 + 71) % 1000 % 100;
            FlipCover x = Bench.of("draw " + draw + ";loses " + rest + ";");
            due("as much, from " + draw, x.run(0), 1);
            x = Bench.of("draw " + draw + ";loses " + (rest + 1) + ";");
            due("less, from " + draw, x.run(0), 0);
            state("a run that is lost is an act, from " + draw, x, 0, (draw * 137 + 71) % 1000, 1, 0);
        }
        FlipCover none = Bench.of("cond a;loses 0;");
        FlipCover every = Bench.of("cond a;loses 100;");
        for (int n = 1; n <= 100; n++) {
            none.run(1);
            due("loses 0", none.test(1, 6), 1);
            none.drop(1);
            due("loses 100", every.run(1), 0);
        }
        // from draw 2 on: 345
        FlipCover x = Bench.of("cond a;draw 2;loses 45;");
        due("it is in the log", x.run(0), 1);
        x = Bench.of("cond a;draw 2;loses 46;");
        x.image(1);
        due("it is lost", x.run(0), 0);
        // 345 * 137 + 71 = 47336
        due("36 is less, too", x.run(0), 0);
        // 336 * 137 + 71 = 46103
        due("3 is less, too", x.run(0), 0);
        // 103 * 137 + 71 = 14182
        due("82 is not", x.run(0), 1);
        due("another one", x.about(5), 182);
        edge.of("2: what is in the LOG stays there if it is RUN again and lost");
        x = Bench.of("cond a;loses 72;");
        // 71, 798, 397, 460
        due("lost", x.run(1), 0);
        due("not", x.run(1), 2);
        due("nor the next", x.run(0), 3);
        due("lost, but there", x.run(1), 3);
        state("four acts", x, 3, 460, 4, 0);
    }

    private static void runRefused() {
        edge.of("11: NONE, doing nothing, if it can't be, or there is none such");
        FlipCover x = Bench.of("cond a;cond b;never a and b;");
        x.run(0);
        x.run(1);
        x.undo();
        for (int t : new int[] {3, 4, -1, 32, Integer.MIN_VALUE, Integer.MAX_VALUE}) {
            due("run " + t, x.run(t), -1);
            state("behind it", x, 1, 71, 1, 1);
        }
        due("it can be redone yet", x.redo(), true);
        state("redone", x, 3, 798, 2, 0);
        due("one that can be", x.run(2), 7);
    }

    private static void dropRefused() {
        edge.of("12: NONE, doing nothing, if it is not in it, or there is none such");
        FlipCover x = Bench.of("cond a;cond b;never a and b;");
        x.run(0);
        x.run(2);
        x.run(1);
        x.undo();
        for (int t : new int[] {1, 3, 4, -1, 32, 34, Integer.MIN_VALUE, Integer.MAX_VALUE}) {
            due("drop " + t, x.drop(t), -1);
            state("behind it", x, 5, 798, 2, 1);
        }
        due("in it", x.drop(2), 1);
        state("an act", x, 1, 798, 3, 0);
        due("no more", x.drop(2), -1);
        due("the last of it", x.drop(0), 0);
        due("of none", x.drop(0), -1);
        state("empty", x, 0, 798, 4, 0);
    }

    private static void mergeRefused() {
        edge.of("13: NONE, doing nothing, if nothing was kept there, or there is no such BOX");
        FlipCover x = Bench.of("cond a;cond b;");
        x.run(0);
        x.image(1);
        x.run(2);
        x.run(3);
        x.undo();
        for (int box : new int[] {0, 2, 3, -1, 4, Integer.MIN_VALUE, Integer.MAX_VALUE}) {
            due("merge " + box, x.merge(box), -1);
            state("behind it", x, 5, 798, 2, 1);
        }
        due("what is there is in it", x.merge(1), 5);
        state("an act, though all was there", x, 5, 798, 3, 0);
        x.drop(0);
        due("what is not there", x.merge(1), 5);
        edge.of("13: (all TESTS of both)");
        x = Bench.of("cond a;cond b;");
        x.image(0);
        x.run(3);
        x.image(1);
        x.drop(3);
        x.run(0);
        x.image(2);
        due("an empty one was kept", x.merge(0), 1);
        due("one more", x.merge(1), 9);
        due("the same", x.merge(2), 9);
        state("acts", x, 9, 798, 6, 0);
    }

    private static void undoRefused() {
        edge.of("14, 15: false if there is none");
        FlipCover x = Bench.of("cond a;draw 7;");
        due("no undo", x.undo(), false);
        due("no redo", x.redo(), false);
        state("nothing done", x, 0, 7, 0, 0);
        x.run(1);
        due("no redo yet", x.redo(), false);
        due("one", x.undo(), true);
        state("as ahead of it", x, 0, 7, 0, 1);
        due("no more", x.undo(), false);
        state("nothing done", x, 0, 7, 0, 1);
        due("one again", x.redo(), true);
        // 7 * 137 + 71 = 1030
        state("as behind it", x, 2, 30, 1, 0);
        due("no more again", x.redo(), false);
        state("nothing done", x, 2, 30, 1, 0);
        edge.of("14: an ACT that leaves LOG and SEED as they were is one, too");
        x = Bench.of("cond a;draw 873;loses 100;");
        // 873 * 137 + 71 = 119672
        x.run(0);
        state("lost", x, 0, 672, 1, 0);
        x.image(0);
        x.merge(0);
        state("merged", x, 0, 672, 2, 0);
        due("undone", x.undo(), true);
        state("undone", x, 0, 672, 1, 1);
    }

    private static void tillAnotherAct() {
        edge.of("2: REDO does that again which was taken back last (till another ACT)");
        for (int kind = 0; kind < 3; kind++) {
            FlipCover x = Bench.of("cond a;cond b;");
            x.run(0);
            x.image(0);
            x.run(1);
            x.run(2);
            x.undo();
            x.undo();
            // none of these is an act
            x.image(1);
            x.seen(0, true);
            x.untell(0);
            x.later(1);
            x.run(4);
            x.drop(1);
            x.merge(2);
            x.feed(0, 0, 0, 0, 0);
            x.end(0);
            x.killers(1);
            x.more(0, 1);
            state("not yet", x, 1, SEEDS[1], 1, 2);
            due("an act", kind == 0 ? x.run(3) : kind == 1 ? x.drop(0) : x.merge(0), kind == 0 ? 9 : kind == 1 ? 0 : 1);
            due("nothing to redo", x.about(7), 0);
            due("no redo", x.redo(), false);
            due("two to undo", x.about(6), 2);
            due("undo", x.undo(), true);
            state("undone", x, 1, SEEDS[1], 1, 1);
        }
        FlipCover x = Bench.of("cond a;cond b;");
        x.run(0);
        x.run(1);
        x.run(2);
        x.undo();
        x.undo();
        x.redo();
        state("undone twice, redone once", x, 3, SEEDS[2], 2, 1);
        x.undo();
        x.undo();
        x.redo();
        x.redo();
        x.redo();
        state("all redone", x, 7, SEEDS[3], 3, 0);
    }

    private static void fortyAreKept() {
        edge.of("2: 40 at most are kept, the oldest go");
        for (int acts : new int[] {1, 38, 39, 40, 41, 42, 79, 80, 81, 100}) {
            FlipCover x = Bench.of("cond a;cond b;cond c;");
            int[] logs = new int[acts + 1];
            for (int n = 1; n <= acts; n++) {
                logs[n] = x.run(n % 8);
            }
            int kept = Math.min(acts, 40);
            state(acts + " acts", x, logs[acts], SEEDS[acts], kept, 0);
            for (int n = 1; n <= kept; n++) {
                due(acts + " acts, undo " + n, x.undo(), true);
                state(acts + " acts, undone " + n, x, logs[acts - n], SEEDS[acts - n], kept - n, n);
            }
            due(acts + " acts, no more", x.undo(), false);
            state(acts + " acts, all undone", x, logs[acts - kept], SEEDS[acts - kept], 0, kept);
            for (int n = 1; n <= kept; n++) {
                due(acts + " acts, redo " + n, x.redo(), true);
            }
            state(acts + " acts, all redone", x, logs[acts], SEEDS[acts], kept, 0);
            due(acts + " acts, no redo", x.redo(), false);
        }
        // the one that is too many may be of each sort
        for (int kind = 0; kind < 3; kind++) {
            FlipCover x = Bench.of("cond a;cond b;cond c;");
            x.run(7);
            x.image(0);
            for (int n = 2; n <= 40; n++) {
                x.run(n % 7);
            }
            state("forty", x, 255, SEEDS[40], 40, 0);
            due("one more", kind == 0 ? x.run(0) : kind == 1 ? x.drop(7) : x.merge(0), kind == 1 ? 127 : 255);
            due("forty again", x.about(6), 40);
            for (int n = 0; n < 40; n++) {
                x.undo();
            }
            state("the first went", x, 128, SEEDS[1], 0, 40);
        }
        FlipCover x = Bench.of("cond a;cond b;cond c;");
        for (int n = 1; n <= 40; n++) {
            x.run(n % 8);
        }
        x.undo();
        state("one of forty is taken back", x, 255, SEEDS[39], 39, 1);
        x.run(1);
        state("another act, none goes", x, 255, SEEDS[40], 40, 0);
        x.run(1);
        state("another act, the oldest goes", x, 255, SEEDS[41], 40, 0);
        for (int n = 0; n < 40; n++) {
            x.undo();
        }
        state("the oldest one kept", x, 2, SEEDS[1], 0, 40);
        x.drop(1);
        state("another act in the place of forty", x, 0, SEEDS[1], 1, 0);
    }

    private static void boxes() {
        edge.of("49: NONE if there is none such; a BOX 0 .. 2");
        FlipCover x = Bench.of("cond a;cond b;");
        x.run(1);
        for (int box : Edge.FAR) {
            due("image " + box, x.image(box), -1);
        }
        due("image 3", x.image(3), -1);
        due("image -1", x.image(-1), -1);
        for (int box = 0; box < 3; box++) {
            due("nothing is kept, " + box, x.merge(box), -1);
            due("nothing is kept to go back to, " + box, x.back(box), -1);
        }
        state("nothing done", x, 2, SEEDS[1], 1, 0);
        for (int box = 0; box < 3; box++) {
            due("image " + box, x.image(box), (1 << box + 2) - 2);
            due("the others are as they were", x.merge((box + 1) % 3) == -1, box < 2);
            x.run(box + 2 & 3);
        }
        due("box 0", x.back(0), 2);
        due("seed 0", x.about(5), SEEDS[1]);
        due("box 1", x.back(1), 6);
        due("seed 1", x.about(5), SEEDS[2]);
        due("box 2", x.back(2), 14);
        due("seed 2", x.about(5), SEEDS[3]);
        x.drop(1);
        due("kept anew", x.image(0), 12);
        due("its old one is gone", x.back(0), 12);
        due("its seed", x.about(5), SEEDS[3]);
    }

    private static void backRefused() {
        edge.of("50: NONE, doing nothing, if nothing was, or there is no such BOX");
        FlipCover x = Bench.of("cond a;cond b;");
        x.run(1);
        x.image(1);
        x.run(2);
        x.run(3);
        x.undo();
        for (int box : new int[] {0, 2, 3, -1, 4, Integer.MIN_VALUE, Integer.MAX_VALUE}) {
            due("back " + box, x.back(box), -1);
            state("behind it", x, 6, SEEDS[2], 2, 1);
        }
        due("it can be redone yet", x.redo(), true);
        edge.of("50: LOG and SEED are as they were kept (no ACTS are kept then; all else stays)");
        x.seen(3, true);
        x.later(5);
        x.feed(0x20202020, 0x20202020, 0x20202020, 0x20202020, 0x20202020);
        x.image(2);
        due("back", x.back(1), 2);
        state("back", x, 2, SEEDS[1], 0, 0);
        due("no undo", x.undo(), false);
        due("no redo", x.redo(), false);
        due("seen", x.about(8), 1);
        due("time", x.about(9), 5);
        due("tape", x.about(10), 20);
        due("conditions", x.about(0), 2);
        due("its own box", x.merge(1), 2);
        due("another box", x.merge(2), 14);
        due("back to what is there", x.back(1), 2);
    }

    private static void decisionEmpties() {
        edge.of("4: the LOG empty, no ACTS are kept, nothing is SEEN, BOXES are empty then; the TIME stays");
        FlipCover x = Bench.of("cond a;cond b;draw 5;");
        for (int n = 0; n < 50; n++) {
            x.run(n % 4);
            x.seen(n % 4, false);
        }
        x.undo();
        x.image(0);
        x.image(1);
        x.image(2);
        x.later(1000);
        Bench.put(x, "cond a;cond b;loses 0;draw 6;");
        due("it is read", x.decision(), 2);
        state("anew", x, 0, 6, 0, 0);
        due("no undo", x.undo(), false);
        due("no redo", x.redo(), false);
        due("seen", x.about(8), 0);
        due("the first seen", x.untell(0), false);
        for (int box = 0; box < 3; box++) {
            due("box " + box, x.merge(box), -1);
            due("back " + box, x.back(box), -1);
        }
        due("time", x.about(9), 1000);
        due("all fit", x.fits(1000), 1);
        due("told anew", x.seen(3, true), 0);
        due("at this time", x.fits(999), 1);
        due("none comes to 1", x.fits(1000), 0);
        // an empty text is a decision, too
        due("an empty one", x.decision(), 0);
        nothingIsLeft();
        edge.of("4: The TAPE is the DECISION, an empty one, too");
        state("an empty one", x, 0, 0, 0, 0);
        due("seen behind an empty one", x.about(8), 0);
    }

    private static void nothingIsLeft() {
        edge.of("4: The TAPE is the DECISION: nothing is left of the one ahead");
        String[] texts = {"cond a;cond b;cond c;goal a and (b or c);costs 5;", "cond a;goal a;never a;costs looks * 7;", "cond a;",
            "cond a;cond b;goal not a and (not b or true);", "goal true;never false;"};
        for (String text : texts) {
            String ahead = Edge.conds(4) + "goal a and (b or c) or d and a;costs number < 8;never b and d;never a and b;";
            FlipCover x = Bench.of(ahead);
            Bench.put(x, ahead);
            x.decision();
            for (int form = 0; form < 3; form++) {
                x.least(form, 1);
                x.cheapest(form, 1);
                x.more(form, 1);
            }
            x.killers(1);
            Bench.put(x, text);
            x.decision();
            FlipCover y = Bench.of(text);
            for (int form = 0; form < 3; form++) {
                due("<" + text + "> least " + form, x.least(form, 1), y.least(form, 1));
                due("<" + text + "> cheapest " + form, x.cheapest(form, 1), y.cheapest(form, 1));
                due("<" + text + "> its cost " + form, x.cheapest(form, 0), y.cheapest(form, 0));
                due("<" + text + "> more " + form, x.more(form, 1), y.more(form, 1));
                due("<" + text + "> coverable " + form, x.coverable(form), y.coverable(form));
                due("<" + text + "> law " + form, x.law(form), y.law(form));
                due("<" + text + "> pairs " + form, x.pairs(0, form), y.pairs(0, form));
                due("<" + text + "> partners " + form, x.partners(0, 1, form), y.partners(0, 1, form));
            }
            due("<" + text + "> killers", x.killers(1), y.killers(1));
            due("<" + text + "> shown", x.shown(0), y.shown(0));
            due("<" + text + "> possible", x.possible(), y.possible());
            due("<" + text + "> nevers", x.about(3), y.about(3));
            due("<" + text + "> dead", x.dead(), y.dead());
            due("<" + text + "> cost", x.test(0, 4), y.test(0, 4));
            due("<" + text + "> fits", x.fits(0), y.fits(0));
        }
    }

    private static void halvesEmpty() {
        edge.of("31: LOOKS that TESTS of the LOG found both 0 and 1");
        FlipCover x = Bench.of("cond a;goal a" + " or a".repeat(9) + ";");
        due("none in the log", x.halves(), 0);
        x.run(0);
        due("all found 0", x.halves(), 0);
        x.run(1);
        due("the first found 1", x.halves(), 1);
        x.drop(0);
        due("found 1 alone", x.halves(), 0);
        x = Bench.of(Edge.conds(4) + "goal (a or true) and (b or true) and (c or true) and (d or true);");
        for (int t = 0; t < 16; t++) {
            x.run(t);
        }
        due("never true", x.halves(), 1 | 4 | 16 | 64);
        due("without a goal", new FlipCover().halves(), 0);
    }

    private static void odds() {
        edge.of("42: ODDS (n 0 .. 4) in lowest terms (0 of 1); NONE for another n, another part");
        for (int loses = 0; loses <= 100; loses++) {
            FlipCover x = Bench.of("loses " + loses + ";");
            for (int n = 0; n <= 4; n++) {
                BigInteger upper = BigInteger.valueOf(100 - loses).pow(n);
                BigInteger lower = BigInteger.valueOf(100).pow(n);
                BigInteger by = upper.gcd(lower);
                due(loses + " upper " + n, x.odds(n, 0), upper.divide(by).intValue());
                due(loses + " lower " + n, x.odds(n, 1), lower.divide(by).intValue());
            }
            due(loses + " of 5", x.odds(5, 0), -1);
            due(loses + " of -1", x.odds(-1, 1), -1);
            due(loses + " part 2", x.odds(4, 2), -1);
            due(loses + " part -1", x.odds(0, -1), -1);
        }
        FlipCover x = Bench.of("loses 100;");
        due("0 of 1, upper", x.odds(1, 0), 0);
        due("0 of 1, lower", x.odds(1, 1), 1);
        due("none of 0 runs, upper", x.odds(0, 0), 1);
        due("none of 0 runs, lower", x.odds(0, 1), 1);
        for (int far : Edge.FAR) {
            due("n " + far, x.odds(far, 0), -1);
            due("part " + far, x.odds(1, far), -1);
        }
    }

    private static void about() {
        edge.of("51: NONE for another what");
        FlipCover x = new FlipCover();
        due("12", x.about(12), 0);
        due("13", x.about(13), -1);
        due("0", x.about(0), 0);
        due("-1", x.about(-1), -1);
        for (int far : Edge.FAR) {
            due("" + far, x.about(far), -1);
        }
        edge.of("51: what is most");
        x = Bench.of(Edge.conds(4) + "never true;never true;never true;never false;goal a" + " or a".repeat(9) + ";costs 1"
            + "*1".repeat(29) + ";loses 100;draw 999;");
        int[] want = {4, 10, 0, 4, 9, 999, 0, 0, 0, 0, 0, 30, 100};
        for (int what = 0; what < want.length; what++) {
            due("what " + what, x.about(what), want[what]);
        }
        x = Bench.of(Edge.conds(4));
        for (int t = 0; t < 50; t++) {
            x.run(t % 16);
        }
        due("sixteen in the log", x.about(2), 0xFFFF);
        due("acts", x.about(6), 40);
    }
}
