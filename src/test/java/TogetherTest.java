/**
 * How sentences of the document work together: tests that can be and all tests, undo and redo over lost runs, boxes
 * between acts, a decision read anew over all of it, what is seen of tests that can't be. The answers were worked out by hand.
 */
public final class TogetherTest {
    /**
     * Tests 0, 5, 7 can't be; 3 to 7 come to 1. Looked at: 0 a c; 1 a b c; 2 a c; 3 a b; 4 a c; 5 a b c; 6 a c; 7 a b.
     */
    private static final String AND_OR = "cond a;cond b;cond c;goal a and b or c;never a and c;never not a and not b and not c;";
    private static final Edge edge = new Edge();

    public static void main(String[] args) {
        allTests();
        testsThatCanBe();
        pairsOfTestsThatCanBe();
        faultyOfTestsThatCanBe();
        exchangedInAllTests();
        seenOfWhatCanNotBe();
        undoOverLostRuns();
        lostRunsCoverNothing();
        actsFromOtherBoxes();
        backOverUndoneActs();
        seenOverActs();
        readAnewOverAll();
        readAnewAtATime();
        faultOverAll();
        readme();
        edge.end("TogetherTest");
    }

    private static void due(String call, long got, long want) {
        edge.due(call, got, want);
    }

    private static void due(String call, boolean got, boolean want) {
        edge.due(call, got, want);
    }

    private static void state(String call, FlipCover x, int log, int seed, int undoable, int redoable) {
        due(call + ": log", x.about(2), log);
        due(call + ": seed", x.about(5), seed);
        due(call + ": can be undone", x.about(6), undoable);
        due(call + ": can be redone", x.about(7), redoable);
    }

    private static int set(int... tests) {
        int set = 0;
        for (int test : tests) {
            set |= 1 << test;
        }
        return set;
    }

    private static void allTests() {
        edge.of("17, 27, 41, 6, 3: TESTS (that CAN BE or not)");
        FlipCover x = Bench.of(AND_OR);
        due("truths", x.truths(), set(3, 4, 5, 6, 7));
        due("a sways 2, 3", x.sway(0), 2);
        due("b sways 1, 3", x.sway(1), 2);
        due("c sways all but 3, 7", x.sway(2), 6);
        due("of 1, its other one by c can't be", x.test(1, 5), 6);
        due("of 5, which can't be", x.test(5, 5), 4);
        due("of 0, which can't be", x.test(0, 5), 4);
        due("looks of 5, which can't be", x.test(5, 2), 7);
        due("cost of 7, which can't be", x.test(7, 4), 1);
        for (int form = 0; form < 3; form++) {
            due("were no never told, form " + form, x.law(form), 3);
        }
    }

    private static void testsThatCanBe() {
        edge.of("16, 28 to 30, 32, 33: TESTS that CAN BE");
        FlipCover x = Bench.of(AND_OR);
        due("possible", x.possible(), set(1, 2, 3, 4, 6));
        due("a, c: alike in 2, unlike in 1", x.couple(0, 2), 0);
        due("none is the same in all", x.fixed(0), -1);
        due("each is looked at", x.dead(), 0);
        due("4 and 6 go one way", x.ways(), 4);
        due("3 and 2 and 2 and 2 and 2", x.mean(0), 11);
        due("of 5 tests", x.mean(1), 5);
        x = Bench.of(AND_OR + "never not a and not c;");
        due("1, 3, 4, 6", x.possible(), set(1, 3, 4, 6));
        due("now always unlike", x.couple(0, 2), 2);
        due("now by another never, too, ways", x.ways(), 3);
        x = Bench.of(AND_OR + "never not a;");
        due("1, 3", x.possible(), set(1, 3));
        due("a is 1", x.fixed(0), 1);
        due("c is 0", x.fixed(2), 0);
        due("b is both", x.fixed(1), -1);
        x = Bench.of(AND_OR + "never a;");
        due("2, 4, 6", x.possible(), set(2, 4, 6));
        due("b is not looked at, as a is 0", x.dead(), 2);
        due("in all tests it sways what it did", x.sway(1), 2);
        due("c alone is covered", x.coverable(0), 4);
        due("were no never told", x.law(0), 3);
    }

    private static void pairsOfTestsThatCanBe() {
        edge.of("3: PAIRS of two TESTS that CAN BE; it SWAYS both, can the one turned over be or not");
        FlipCover x = Bench.of(AND_OR);
        int[][] counts = {{1, 1, 1}, {1, 1, 4}, {1, 1, 2}};
        int[] least = {set(1, 2, 3, 6), set(1, 2, 3, 4), set(1, 2, 3, 4)};
        for (int form = 0; form < 3; form++) {
            for (int cond = 0; cond < 3; cond++) {
                due("pairs of " + cond + ", form " + form, x.pairs(cond, form), counts[form][cond]);
            }
            due("coverable " + form, x.coverable(form), 7);
            due("least " + form, x.least(form, 1), least[form]);
            due("how many " + form, x.least(form, 0), 4);
            due("what can't be does not count " + form, x.covers(set(0, 4, 5, 7), form), 0);
            due("all tests " + form, x.covers(255, form), 7);
            due("next of 1, 2, 3 " + form, afterRuns(x, form), form == 0 ? 6 : 4);
        }
        due("1 and 4 unmasked", x.pair(2, 1, 4, 1), 1);
        due("1 and 4, a was looked at in both", x.pair(2, 1, 4, 2), 0);
        due("2 and 4, b was not looked at", x.pair(2, 2, 4, 2), 1);
        due("2 and 4 alone", x.pair(2, 2, 4, 0), 0);
        due("1 and 5 alone: 5 can't be", x.pair(2, 1, 5, 0), 0);
        due("partners of 5", x.partners(2, 5, 0), 0);
    }

    private static int afterRuns(FlipCover x, int form) {
        x.run(1);
        x.run(2);
        x.run(3);
        int next = x.next(form);
        due("which is more, too, form " + form, x.more(form, 1), 1 << next);
        due("a, b are covered, form " + form, x.covered(form), 3);
        due("two of three, form " + form, x.percent(form), 66);
        due("1, 2, 3 are needed, form " + form, x.needless(form), 0);
        x.undo();
        x.undo();
        x.undo();
        return next;
    }

    private static void faultyOfTestsThatCanBe() {
        edge.of("3: A TEST that CAN BE SHOWS one");
        FlipCover x = Bench.of(AND_OR);
        int[] shows = {set(1, 2), set(3, 4, 6), set(2, 3), set(1, 3), set(1, 2, 4, 6), set(3), set(2), set(3), set(1), set(4, 6), set(1, 2)};
        due("faulties", x.faulties(), shows.length);
        for (int faulty = 0; faulty < shows.length; faulty++) {
            due("faulty " + faulty, x.shows(faulty), shows[faulty]);
        }
        int[] shown = {0, 5, 5, 5, 3, 0, 3, 0};
        for (int test = 0; test < shown.length; test++) {
            due("test " + test, x.shown(test), shown[test]);
        }
        due("killers", x.killers(1), set(1, 2, 3, 4));
        due("alive", x.alive(0), 11);
        x.run(4);
        due("4 was run", x.alive(0), 8);
        due("no test", x.alive(1), 0);
        x = Bench.of(AND_OR + "never b;never c;");
        due("1 alone", x.possible(), set(1));
        due("none but what 1 shows", x.alive(1), 6);
        due("1 shows them all", x.killers(1), set(1));
    }

    private static void exchangedInAllTests() {
        edge.of("40: Whether each TEST (that CAN BE or not) comes to the same");
        FlipCover x = Bench.of("cond a;cond b;goal a or not b;never a and not b;never b and not a;");
        due("a, b are always alike", x.couple(0, 1), 1);
        due("1, 2 would not come to the same, though they can't be", x.exchange(0, 1), 0);
        x = Bench.of(AND_OR);
        due("a, b", x.exchange(0, 1), 1);
        due("a, c", x.exchange(0, 2), 0);
        due("c, c", x.exchange(2, 2), 1);
    }

    private static void seenOfWhatCanNotBe() {
        edge.of("4: to what a TEST (any) came; ASK: the TEST that CAN BE");
        FlipCover x = Bench.of(AND_OR);
        due("5 can't be", x.seen(5, true), 0);
        due("without the or turned, c turned over, c told 0", x.fits(0), 9);
        int[] fit = {-1, 0, 2, 3, 5, 6, 7, 8, 10, -2};
        for (int i = 0; i < fit.length; i++) {
            due("the one at " + i, x.culprit(i, 0), fit[i]);
        }
        due("4 of 9 come to 1 in test 1", x.ask(0, 0), 1);
        due("5 are left", x.ask(1, 0), 5);
        x.later(1);
        due("0 can't be", x.seen(0, true), 1);
        due("c told 1 alone", x.fits(1), 1);
        due("which is the last one", x.culprit(0, 1), 10);
        due("nothing is to be asked, so the first that can be", x.ask(0, 1), 1);
        due("one is left", x.ask(1, 1), 1);
        due("as known ahead of it", x.fits(0), 9);
        x.later(1);
        x.seen(6, false);
        due("c told 1 is not so", x.fits(2), 0);
        due("none is to be asked", x.ask(0, 2), -1);
        x.later(1);
        due("the second was not so", x.untell(1), true);
        due("none yet: 5 comes to 1, 6 to 0", x.fits(3), 0);
        x.later(1);
        due("the first was not so", x.untell(0), true);
        due("6 to 0: the or turned, c turned over, c told 0", x.fits(4), 3);
        due("the or turned", x.culprit(0, 4), 1);
        due("as known at 3", x.fits(3), 0);
        due("as known at 1", x.culprit(0, 1), 10);
        due("as known at -1", x.fits(-1), 12);
    }

    private static void undoOverLostRuns() {
        edge.of("2: UNDO, REDO: LOG and SEED are as ahead of it, as behind it, over runs that were lost");
        // seeds from 0 on: 71 (lost) 798 397 460 (lost) 91 538 (lost) 777
        FlipCover x = Bench.of("cond a;cond b;goal a and b;loses 72;");
        due("lost", x.run(1), 0);
        state("lost", x, 0, 71, 1, 0);
        due("the same again", x.run(1), 2);
        due("another one", x.run(2), 6);
        due("lost", x.run(3), 6);
        state("lost", x, 6, 460, 4, 0);
        due("taken out", x.drop(2), 2);
        state("the seed stays", x, 2, 460, 5, 0);
        due("back in", x.run(2), 6);
        state("back in", x, 6, 91, 6, 0);
        due("undone", x.undo() && x.undo() && x.undo(), true);
        state("ahead of the lost one", x, 6, 397, 3, 3);
        due("redone", x.redo(), true);
        state("behind the lost one", x, 6, 460, 4, 2);
        due("undone", x.undo(), true);
        due("another one in its place is lost by the same seed", x.run(0), 6);
        state("none is redone then", x, 6, 460, 4, 0);
        due("none", x.redo(), false);
        due("one in the log is run again", x.run(1), 6);
        due("one in the log is lost", x.run(1), 6);
        state("it stays in the log", x, 6, 538, 6, 0);
        due("not in it", x.drop(3), -1);
        due("it is run", x.run(3), 14);
        state("it is run", x, 14, 777, 7, 0);
    }

    private static void lostRunsCoverNothing() {
        edge.of("20, 21, 24 to 26, 31, 38: what counts the LOG counts no lost run");
        FlipCover x = Bench.of("cond a;cond b;goal a and b;loses 72;");
        x.run(3);
        due("lost", x.test(3, 6), 0);
        due("none is covered", x.covered(0), 0);
        due("it is next yet, of like ones the first", x.next(0), 0);
        due("more", x.more(0, 1), set(1, 2, 3));
        due("alive", x.alive(0), x.faulties());
        x.run(3);
        x.run(2);
        due("a is covered", x.covered(0), 1);
        due("half", x.percent(0), 50);
        due("next", x.next(0), 1);
        due("more", x.more(0, 1), set(1));
        due("a was found 0 and 1, b was found 1", x.halves(), 1);
        x.run(1);
        due("lost", x.percent(0), 50);
        due("more as it was", x.more(0, 1), set(1));
        x.run(1);
        due("all", x.percent(0), 100);
        due("nothing more", x.more(0, 0), 0);
        due("b was found 0, too", x.halves(), 3);
        x.undo();
        due("half again", x.percent(0), 50);
        due("b was not", x.halves(), 1);
        x.redo();
        due("all again", x.percent(0), 100);
    }

    private static void actsFromOtherBoxes() {
        edge.of("13 to 15, 49: a merge is redone as it was, whatever the BOX has by then");
        FlipCover x = Bench.of("cond a;cond b;");
        x.run(1);
        x.image(0);
        x.drop(1);
        x.run(2);
        due("merged", x.merge(0), 6);
        state("the seed stays", x, 6, 798, 4, 0);
        x.undo();
        due("kept anew, no act", x.image(0), 4);
        state("no act", x, 4, 798, 3, 1);
        due("redone", x.redo(), true);
        state("as it was", x, 6, 798, 4, 0);
        due("its seed was kept, too", x.back(0), 4);
        state("no acts", x, 4, 798, 0, 0);
        x.run(3);
        due("a box within the log is merged, an act", x.merge(0), 12);
        state("an act", x, 12, 397, 2, 0);
        x.undo();
        state("ahead of it nothing else is", x, 12, 397, 1, 1);
    }

    private static void backOverUndoneActs() {
        edge.of("50, 14, 15: no ACTS are kept then, neither done nor undone ones");
        FlipCover x = Bench.of("cond a;cond b;loses 72;draw 71;");
        x.run(1);
        x.image(2);
        for (int n = 0; n < 45; n++) {
            x.run(n & 3);
        }
        x.undo();
        x.undo();
        due("forty were kept", x.about(6), 38);
        due("back", x.back(2), 2);
        state("back", x, 2, 798, 0, 0);
        due("none", x.redo() || x.undo(), false);
        due("from its seed on", x.run(2), 6);
        due("lost as ahead", x.run(3), 6);
        state("behind it", x, 6, 460, 2, 0);
        due("undone", x.undo() && x.undo() && !x.undo(), true);
        state("to what was kept", x, 2, 798, 0, 2);
    }

    private static void seenOverActs() {
        edge.of("14, 15, 50: UNDO, REDO, back: what is SEEN and the TIME stay");
        FlipCover x = Bench.of(AND_OR);
        x.run(1);
        x.image(0);
        x.seen(1, false);
        x.later(7);
        x.run(2);
        x.seen(2, true);
        x.undo();
        due("seen", x.about(8), 2);
        due("time", x.about(9), 7);
        due("a turned over, a told 1", x.fits(7), 2);
        due("at 0", x.fits(0), 7);
        x.redo();
        x.back(0);
        due("seen behind back", x.about(8), 2);
        due("fits behind back", x.fits(7), 2);
        due("untold", x.untell(1), true);
        due("fits at 7", x.fits(7), 7);
        due("fits at 6", x.fits(6), 7);
        due("counted yet", x.about(8), 2);
        due("the next number", x.seen(2, false), 2);
    }

    private static FlipCover used() {
        FlipCover x = Bench.of(AND_OR + "costs number;loses 1;draw 3;");
        for (int n = 0; n < 42; n++) {
            x.run(1 + n % 4);
        }
        for (int n = 0; n < 30; n++) {
            x.seen(n % 8, n % 8 > 2);
        }
        x.undo();
        for (int box = 0; box < 3; box++) {
            x.image(box);
        }
        x.later(1000);
        x.untell(3);
        return x;
    }

    private static void readAnewOverAll() {
        edge.of("4: a DECISION read anew over a full LOG, ACTS, BOXES, what is SEEN; the TIME stays");
        FlipCover x = used();
        due("the log is full", x.about(2), set(1, 2, 3, 4));
        due("acts", x.about(6), 39);
        Bench.put(x, "cond p;cond q;goal p or q;draw 999;");
        due("read", x.decision(), 2);
        state("anew", x, 0, 999, 0, 0);
        due("loses", x.about(12), 0);
        due("units", x.about(11), 0);
        due("never", x.about(3), 0);
        due("seen", x.about(8), 0);
        due("time", x.about(9), 1000);
        due("all can be", x.possible(), 15);
        due("costs are not told", x.cheapest(0, 0), 3);
        due("no box", x.merge(0) == -1 && x.merge(1) == -1 && x.back(2) == -1, true);
        due("no act", x.undo() || x.redo(), false);
        due("none to be untold", x.untell(0), false);
        due("all fit", x.fits(1000), 1 + 1 + 2 + 4);
        due("none is shown", x.alive(0), 7);
        due("nothing is covered", x.covered(0), 0);
        // 999 * 137 + 71 = 136934
        due("none is lost any more", x.run(2), 4);
        state("from its draw on", x, 4, 934, 1, 0);
        due("thirty more", x.seen(0, false), 0);
    }

    private static void readAnewAtATime() {
        edge.of("4, 43 to 46: the TIME goes on over DECISIONS; nothing of the one ahead is known at any");
        FlipCover x = Bench.of("cond a;goal a;");
        x.later(50);
        x.seen(1, false);
        due("a turned over, told 0", x.fits(50), 2);
        Bench.put(x, "cond a;goal a;");
        x.decision();
        due("told at 50 of the one ahead", x.fits(50), 4);
        x.later(10);
        x.seen(1, true);
        due("ahead of it", x.fits(59), 4);
        due("a, told 1", x.fits(60), 2);
        due("-1", x.culprit(0, 60), -1);
        due("told 1", x.culprit(1, 60), 2);
    }

    private static void faultOverAll() {
        edge.of("4: NONE: a FAULT (the TAPE is empty then, too; all else stays)");
        FlipCover x = used();
        Bench.put(x, "cond p;goal p;never p;costs 4;draw 5;loses 2;cond q");
        due("a fault at the end", x.decision(), -1);
        due("which", x.fault(0), 2);
        due("where", x.fault(1), 51);
        due("tape", x.about(10), 0);
        due("conditions", x.about(0), 3);
        due("log", x.about(2), set(1, 2, 3, 4));
        due("acts", x.about(6), 39);
        due("undone", x.about(7), 1);
        due("seen", x.about(8), 30);
        due("loses", x.about(12), 1);
        due("a cost is a number", x.test(6, 4), 6);
        due("faulties", x.faulties(), 11);
        due("by its link, as it was", x.shows(1), set(3, 4, 6));
        due("a box", x.merge(2), set(1, 2, 3, 4));
        due("the fault is told till the next one", x.fault(0), 2);
        due("an empty one", x.decision(), 0);
        due("is without", x.fault(0), 0);
        due("has no place", x.fault(1), -1);
    }

    private static void readme() {
        edge.of("README.md: its answers");
        FlipCover x = Bench.of("cond a;cond b;goal a and b;");
        due("least", x.least(0, 1), 14);
        due("run", x.run(3), 8);
        due("percent", x.percent(0), 0);
        due("next", x.next(0), 1);
        due("run 1", x.run(1), 10);
        due("percent then", x.percent(0), 50);
        due("more", x.more(0, 1), 4);
        due("shows", x.shows(0), 6);
        due("seen", x.seen(1, true), 0);
        due("fits", x.fits(0), 3);
        due("culprit", x.culprit(0, 0), 0);
        // a or b, a and not b, a: test 2 is the first to part them
        due("ask", x.ask(0, 0), 2);
        due("how many are left", x.ask(1, 0), 2);
        Bench.put(x, "cond a;goal b;");
        due("a fault", x.decision(), -1);
        due("which", x.fault(0), 5);
        due("where", x.fault(1), 12);
    }
}
