/** Promises 11 to 15, 31, 42 and 49 to 51: the log, acts undone and redone, boxes, halves, odds, about. */
public final class LogPromiseTest {
    private static final Bench bench = new Bench();
    private static final String AND_OR = "cond a;cond b;cond c;goal a and (b or c);";
    private static final String WITHOUT_B_C = AND_OR + "never b and c;";

    public static void main(String[] args) {
        run();
        lostRuns();
        drop();
        merge();
        undo();
        redo();
        fortyActs();
        halves();
        odds();
        image();
        back();
        about();
        boxesAndActsOfADecision();
        bench.end("LogPromiseTest");
    }

    private static void due(String call, long got, long want) {
        bench.due(call, got, want);
    }

    private static void due(String call, boolean got, boolean want) {
        bench.due(call, got, want);
    }

    /** Compares the log, the seed and how many acts can be undone and redone. */
    private static void state(String call, FlipCover x, int log, int seed, int undoable, int redoable) {
        due(call + ": log", x.about(2), log);
        due(call + ": seed", x.about(5), seed);
        due(call + ": undoable", x.about(6), undoable);
        due(call + ": redoable", x.about(7), redoable);
    }

    /** Promise 11. */
    private static void run() {
        FlipCover x = Bench.of(WITHOUT_B_C);
        state("11: at first", x, 0, 0, 0, 0);
        due("11: one", x.run(3), 8);
        due("11: another one", x.run(0), 9);
        // 0 to 71, to 71 * 137 + 71 = 9798
        state("11: two runs", x, 9, 798, 2, 0);
        due("11: in the log", x.test(3, 6), 1);
        due("11: not in the log", x.test(1, 6), 0);
        due("11: once more", x.run(3), 9);
        state("11: once more is an act", x, 9, 397, 3, 0);
        due("11: can't be", x.run(6), -1);
        due("11: none such", x.run(8), -1);
        due("11: none such -1", x.run(-1), -1);
        due("11: none such, highest", x.run(Integer.MAX_VALUE), -1);
        due("11: none such, lowest", x.run(Integer.MIN_VALUE), -1);
        state("11: nothing done", x, 9, 397, 3, 0);
        due("11: without conditions", new FlipCover().run(0), 1);
        due("11: without conditions, none such", new FlipCover().run(1), -1);
        x = Bench.of("cond a;cond b;cond c;cond d;");
        for (int t = 0; t < 16; t++) {
            due("11: sixteen, " + t, x.run(t), (1 << t + 1) - 1);
        }
    }

    /** Promise 11: runs that are lost. */
    private static void lostRuns() {
        // from draw 0 on the seeds are 71 798 397 460 91 538 777 520 311 678
        int[] seeds = {71, 798, 397, 460, 91, 538, 777, 520, 311, 678};
        for (int loses : new int[] {0, 1, 11, 12, 20, 21, 38, 39, 60, 61, 71, 72, 91, 97, 98, 99, 100}) {
            FlipCover x = Bench.of("cond a;cond b;cond c;cond d;loses " + loses + ";");
            int log = 0;
            for (int t = 0; t < seeds.length; t++) {
                log |= seeds[t] % 100 < loses ? 0 : 1 << t;
                due("11: loses " + loses + ", run " + t, x.run(t), log);
                state("11: loses " + loses + ", run " + t, x, log, seeds[t], t + 1, 0);
            }
        }
        FlipCover x = Bench.of("cond a;draw 999;loses 34;");
        due("11: draw", x.about(5), 999);
        // 999 * 137 + 71 = 136934
        due("11: the rest is not less", x.run(1), 2);
        due("11: from draw on", x.about(5), 934);
        x = Bench.of("cond a;draw 999;loses 35;");
        due("11: the rest is less", x.run(1), 0);
        due("11: lost, the seed goes on", x.about(5), 934);
        x = Bench.of("cond a;loses 72;");
        due("11: lost", x.run(0), 0);
        due("11: the next is not", x.run(0), 1);
        x.run(1);
        due("11: none is lost that is there", x.run(0), 3);
    }

    /** Promise 12. */
    private static void drop() {
        FlipCover x = Bench.of(WITHOUT_B_C);
        due("12: not in it", x.drop(3), -1);
        x.run(3);
        x.run(5);
        due("12: not in it, either", x.drop(0), -1);
        due("12: none such", x.drop(8), -1);
        due("12: none such -1", x.drop(-1), -1);
        due("12: none such, by bits as 3", x.drop(35), -1);
        state("12: nothing done", x, 40, 798, 2, 0);
        due("12: in it", x.drop(3), 32);
        state("12: an act, the seed stays", x, 32, 798, 3, 0);
        due("12: not twice", x.drop(3), -1);
        due("12: undone", x.undo(), true);
        state("12: undone", x, 40, 798, 2, 1);
        due("12: another one", x.drop(5), 8);
        state("12: no redo behind it", x, 8, 798, 3, 0);
    }

    /** Promise 13. */
    private static void merge() {
        FlipCover x = Bench.of(WITHOUT_B_C);
        x.run(3);
        x.run(5);
        due("13: nothing was kept", x.merge(0), -1);
        x.image(0);
        x.drop(3);
        x.run(1);
        due("13: nothing was kept in the next", x.merge(1), -1);
        due("13: no such box", x.merge(3), -1);
        due("13: no such box -1", x.merge(-1), -1);
        state("13: nothing done", x, 34, 397, 4, 0);
        due("13: all of both", x.merge(0), 42);
        state("13: an act, the seed stays", x, 42, 397, 5, 0);
        due("13: again", x.merge(0), 42);
        state("13: an act again", x, 42, 397, 6, 0);
        x.undo();
        x.undo();
        state("13: undone", x, 34, 397, 4, 2);
        x.drop(1);
        x.drop(5);
        x.image(2);
        x.run(0);
        due("13: an empty log was kept", x.merge(2), 1);
        due("13: the box has what it had", x.merge(0), 41);
    }

    /** Promise 14. */
    private static void undo() {
        FlipCover x = Bench.of("cond a;cond b;loses 72;");
        due("14: none", x.undo(), false);
        x.run(1);
        state("14: a lost run", x, 0, 71, 1, 0);
        x.run(2);
        x.drop(2);
        due("14: the drop", x.undo(), true);
        state("14: the drop", x, 4, 798, 2, 1);
        due("14: the run", x.undo(), true);
        state("14: the run, its seed too", x, 0, 71, 1, 2);
        due("14: the lost run", x.undo(), true);
        state("14: the lost run", x, 0, 0, 0, 3);
        due("14: none is left", x.undo(), false);
        state("14: nothing done", x, 0, 0, 0, 3);
        due("14: an act that does nothing", x.run(4), -1);
        state("14: which is none", x, 0, 0, 0, 3);
    }

    /** Promise 15. */
    private static void redo() {
        FlipCover x = Bench.of("cond a;cond b;");
        due("15: none", x.redo(), false);
        x.run(1);
        due("15: none was taken back", x.redo(), false);
        x.run(2);
        x.drop(1);
        x.undo();
        x.undo();
        x.undo();
        due("15: the first", x.redo(), true);
        state("15: the first", x, 2, 71, 1, 2);
        due("15: the second", x.redo(), true);
        state("15: the second", x, 6, 798, 2, 1);
        due("15: the drop", x.redo(), true);
        state("15: the drop", x, 4, 798, 3, 0);
        due("15: none is left", x.redo(), false);
        x.undo();
        x.undo();
        due("15: another act", x.run(3), 10);
        state("15: none behind another act", x, 10, 798, 2, 0);
        due("15: none", x.redo(), false);
        x.undo();
        due("15: what does nothing is no act", x.drop(3), -1);
        due("15: so it can be redone", x.redo(), true);
        state("15: so it can be redone", x, 10, 798, 2, 0);
        x.undo();
        x.image(0);
        due("15: image is no act", x.redo(), true);
    }

    /** Promises 14 and 15: 40 acts at most are kept. */
    private static void fortyActs() {
        FlipCover x = Bench.of("cond a;cond b;cond c;cond d;");
        int[] logs = new int[51];
        int[] seeds = new int[51];
        for (int n = 1; n <= 50; n++) {
            boolean isRun = n % 3 != 0;
            logs[n] = isRun ? x.run(n * 7 % 16) : x.drop((n - 1) * 7 % 16);
            seeds[n] = isRun ? (seeds[n - 1] * 137 + 71) % 1000 : seeds[n - 1];
            state("14: act " + n, x, logs[n], seeds[n], Math.min(n, 40), 0);
        }
        for (int n = 49; n >= 10; n--) {
            due("14: back to act " + n, x.undo(), true);
            state("14: back to act " + n, x, logs[n], seeds[n], n - 10, 50 - n);
        }
        due("14: the oldest are gone", x.undo(), false);
        for (int n = 11; n <= 50; n++) {
            due("15: on to act " + n, x.redo(), true);
            state("15: on to act " + n, x, logs[n], seeds[n], n - 10, 50 - n);
        }
        due("15: no more", x.redo(), false);
    }

    /** Promise 31. */
    private static void halves() {
        FlipCover x = Bench.of("cond a;cond b;cond c;goal a and (b or not c) or true;");
        due("31: empty log", x.halves(), 0);
        x.run(0);
        due("31: one test", x.halves(), 0);
        x.run(1);
        // 0: a true; 1: a b c
        due("31: a", x.halves(), 1);
        x.run(3);
        due("31: a, b", x.halves(), 3);
        x.run(6);
        due("31: c was not looked at", x.halves(), 3);
        x.run(5);
        due("31: a, b, c, never true", x.halves(), 7);
        x.drop(1);
        due("31: c was looked at as 1 alone", x.halves(), 3);
        x.undo();
        due("31: undone", x.halves(), 7);
        x = Bench.of("cond a;goal not a and a;");
        x.run(0);
        x.run(1);
        due("31: what is found, not what comes of it", x.halves(), 1);
        due("31: without a goal", Bench.of("cond a;").halves(), 0);
    }

    /** Promise 42. */
    private static void odds() {
        FlipCover x = Bench.of("loses 30;");
        int[] uppers = {1, 7, 49, 343, 2401};
        int[] lowers = {1, 10, 100, 1000, 10000};
        for (int n = 0; n <= 4; n++) {
            due("42: upper " + n, x.odds(n, 0), uppers[n]);
            due("42: lower " + n, x.odds(n, 1), lowers[n]);
            due("42: none lost, upper " + n, new FlipCover().odds(n, 0), 1);
            due("42: none lost, lower " + n, new FlipCover().odds(n, 1), 1);
            due("42: all lost, upper " + n, Bench.of("loses 100;").odds(n, 0), n == 0 ? 1 : 0);
            due("42: all lost, lower " + n, Bench.of("loses 100;").odds(n, 1), 1);
            due("42: another part", x.odds(n, 2), -1);
            due("42: part -1", x.odds(n, -1), -1);
        }
        due("42: great, upper", Bench.of("loses 1;").odds(4, 0), 96059601);
        due("42: great, lower", Bench.of("loses 1;").odds(4, 1), 100000000);
        due("42: lowest terms, upper", Bench.of("loses 50;").odds(3, 0), 1);
        due("42: lowest terms, lower", Bench.of("loses 50;").odds(3, 1), 8);
        due("42: no 5", x.odds(5, 0), -1);
        due("42: no 5, lower", x.odds(5, 1), -1);
        due("42: no -1", x.odds(-1, 0), -1);
        due("42: highest", x.odds(Integer.MAX_VALUE, 1), -1);
    }

    /** Promise 49. */
    private static void image() {
        FlipCover x = Bench.of("cond a;cond b;");
        due("49: empty", x.image(0), 0);
        x.run(1);
        x.run(2);
        due("49: box 1", x.image(1), 6);
        state("49: nothing else is done", x, 6, 798, 2, 0);
        due("49: box 2", x.image(2), 6);
        due("49: no box 3", x.image(3), -1);
        due("49: no box -1", x.image(-1), -1);
        due("49: box 0 is as it was", x.back(0), 0);
        due("49: box 1 is as it was", x.back(1), 6);
        x.drop(2);
        due("49: kept anew", x.image(1), 2);
        x.run(3);
        due("49: box 1 is the new one", x.back(1), 2);
        due("49: box 2 is the old one", x.back(2), 6);
    }

    /** Promise 50. */
    private static void back() {
        FlipCover x = Bench.of("cond a;cond b;");
        x.run(1);
        due("50: nothing was", x.back(0), -1);
        due("50: no box 3", x.back(3), -1);
        due("50: no box -1", x.back(-1), -1);
        state("50: nothing done", x, 2, 71, 1, 0);
        x.image(0);
        x.run(2);
        x.run(0);
        x.undo();
        x.seen(1, true);
        x.later(5);
        due("50: as it was", x.back(0), 2);
        state("50: as it was, no acts", x, 2, 71, 0, 0);
        due("50: no undo", x.undo(), false);
        due("50: no redo", x.redo(), false);
        due("50: what is seen stays", x.about(8), 1);
        due("50: the time stays", x.about(9), 5);
        due("50: boxes stay", x.merge(0), 2);
        state("50: acts again", x, 2, 71, 1, 0);
        due("50: the seed goes on from there", x.run(3), 10);
        due("50: the seed, too", x.about(5), 798);
        due("50: undo to there", x.undo() && x.undo(), true);
        state("50: undo to there", x, 2, 71, 0, 2);
        x.later(1);
        due("50: once more", x.back(0), 2);
        state("50: no redo then", x, 2, 71, 0, 0);
    }

    /** Promise 51. */
    private static void about() {
        String text = "cond a;cond b;goal a and (b or not a) or true;never a and b and true;never false;"
            + "costs 3 + (ones * 2);loses 7;draw 12;";
        FlipCover x = Bench.of(text);
        int[] want = {2, 4, 0, 2, 3, 12, 0, 0, 0, 0, 0, 4, 7};
        abouts("51: read", x, want);
        x.run(1);
        want[2] = 2;
        // 12 * 137 + 71 = 1715
        want[5] = 715;
        want[6] = 1;
        abouts("51: run", x, want);
        x.run(2);
        x.undo();
        want[7] = 1;
        abouts("51: undone", x, want);
        x.seen(0, true);
        x.seen(3, false);
        x.untell(0);
        want[8] = 2;
        x.later(30);
        want[9] = 30;
        x.feed(0, 0, 0, 0, 0);
        want[10] = 20;
        abouts("51: seen, later, fed", x, want);
        x.end(13);
        want[10] = 13;
        abouts("51: cut", x, want);
        // the tape has bytes that are no token
        due("51: fault", x.decision(), -1);
        want[10] = 0;
        abouts("51: behind a fault", x, want);
        due("51: no 13", x.about(13), -1);
        due("51: no -1", x.about(-1), -1);
        due("51: highest", x.about(Integer.MAX_VALUE), -1);
        abouts("51: at first", new FlipCover(), new int[13]);
    }

    private static void abouts(String call, FlipCover x, int[] want) {
        for (int what = 0; what < want.length; what++) {
            due(call + ", what " + what, x.about(what), want[what]);
        }
    }

    /** Promises 4, 49 to 51: what a decision that is new leaves, and what one with a fault does. */
    private static void boxesAndActsOfADecision() {
        FlipCover x = Bench.of("cond a;cond b;draw 5;");
        x.run(1);
        x.image(0);
        x.run(2);
        x.undo();
        x.later(9);
        Bench.put(x, "cond a;cond a;");
        due("4: a fault", x.decision(), -1);
        // 5 * 137 + 71 = 756
        state("4: behind a fault", x, 2, 756, 1, 1);
        due("4: the box behind a fault", x.merge(0), 2);
        Bench.put(x, "cond a;draw 8;");
        due("4: a new one", x.decision(), 1);
        state("4: behind a new one", x, 0, 8, 0, 0);
        for (int box = 0; box < 3; box++) {
            due("4: boxes are empty, merge " + box, x.merge(box), -1);
            due("4: boxes are empty, back " + box, x.back(box), -1);
        }
        due("4: the time stays", x.about(9), 9);
    }
}
