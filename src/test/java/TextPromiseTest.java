/** Promises 1 to 7: a new object, the tape, the text and its faults, what a test and a look are. */
public final class TextPromiseTest {
    private static final Bench bench = new Bench();

    public static void main(String[] args) {
        newObject();
        feed();
        end();
        decision();
        decisionKeeps();
        decisionsInTurn();
        faultsOfTokens();
        faultsOfLines();
        faultsOfNumbersAndNames();
        faultsOfTooMany();
        faultsOfDepth();
        blanksAndWords();
        test();
        costs();
        look();
        bench.end("TextPromiseTest");
    }

    private static void due(String call, long got, long want) {
        bench.due(call, got, want);
    }

    /** Promise 1. */
    private static void newObject() {
        FlipCover x = new FlipCover();
        due("NONE", FlipCover.NONE, -1);
        for (int what = -1; what <= 13; what++) {
            due("1: about " + what, x.about(what), what < 0 || what > 12 ? -1 : 0);
        }
        due("1: possible", x.possible(), 1);
        due("1: truths", x.truths(), 0);
        due("1: fault 0", x.fault(0), 0);
        due("1: fault 1", x.fault(1), -1);
        due("1: faulties", x.faulties(), 0);
        due("1: cost", x.test(0, 4), 1);
        bench.due("1: undo", x.undo(), false);
        bench.due("1: redo", x.redo(), false);
        // a second object has nothing of the first one
        x.run(0);
        x.later(7);
        FlipCover y = new FlipCover();
        due("1: log of a second one", y.about(2), 0);
        due("1: time of a second one", y.about(9), 0);
    }

    /** Promise 2. */
    private static void feed() {
        FlipCover x = new FlipCover();
        due("2: feed", x.feed(0x636F6E64, 0x20613B63, 0x6F6E6420, 0x623B676F, 0x616C2062), 20);
        due("2: feed on", x.feed(0x3B202020, 0x20202020, 0x20202020, 0x20202020, 0x20202020), 40);
        due("2: decision", x.decision(), 2);
        due("2: goal b", x.truths(), 12);
        // bytes above 127 are bytes, not signs below 0
        due("2: high bytes", x.feed(0x20202020, 0x2020FF20, 0x80000000, -1, -1), 20);
        due("2: high bytes, decision", x.decision(), -1);
        due("2: high bytes, fault", x.fault(0), 1);
        due("2: high bytes, place", x.fault(1), 6);
        for (int n = 1; n <= 80; n++) {
            due("2: feed " + n, x.feed(0x20202020, 0x0A202020, 0x20202020, 0x20202020, 0x20202020), n * 20);
        }
        due("2: feed too much", x.feed(0x3B3B3B3B, 0, 0, 0, 0), -1);
        due("2: nothing came", x.about(10), 1600);
        due("2: cut", x.end(1581), 1581);
        due("2: feed above 1,600", x.feed(0x20202020, 0x20202020, 0x20202020, 0x20202020, 0x20202020), -1);
        due("2: nothing came again", x.about(10), 1581);
        due("2: cut again", x.end(1580), 1580);
        due("2: feed to 1,600", x.feed(0x20202020, 0x20202020, 0x20202020, 0x20202020, 0x20202020), 1600);
        due("2: all blanks", x.decision(), 0);
        Bench.put(x, "cond a;cond b;" + " ".repeat(1579) + "cond c;");
        due("2: the last byte counts", x.decision(), 3);
    }

    /** Promise 3. */
    private static void end() {
        FlipCover x = new FlipCover();
        due("3: end 0 of none", x.end(0), 0);
        due("3: end 1 of none", x.end(1), -1);
        Bench.put(x, "cond a;cond b;cond c;");
        due("3: end -1", x.end(-1), -1);
        due("3: end least", x.end(Integer.MIN_VALUE), -1);
        due("3: end 22", x.end(22), -1);
        due("3: end most", x.end(Integer.MAX_VALUE), -1);
        due("3: nothing done", x.about(10), 21);
        due("3: end 21", x.end(21), 21);
        due("3: end 7", x.end(7), 7);
        due("3: end 14, cut ahead", x.end(14), -1);
        due("3: feed behind", x.feed(0x636F6E64, 0x207A3B20, 0x676F616C, 0x207A3B20, 0x20202020), 27);
        due("3: decision", x.decision(), 2);
        due("3: goal z", x.truths(), 12);
        due("3: tape empty", x.end(1), -1);
    }

    /** Promise 4. */
    private static void decision() {
        FlipCover x = new FlipCover();
        due("4: empty", x.decision(), 0);
        Bench.put(x, "cond a;cond b;cond c;cond d;");
        due("4: four", x.decision(), 4);
        due("4: tape", x.about(10), 0);
        due("4: again, empty", x.decision(), 0);
        Bench.put(x, "cond a;goal a;loses 25;draw 17;costs 3;never false;");
        due("4: one", x.decision(), 1);
        due("4: seed", x.about(5), 17);
        due("4: loses", x.about(12), 25);
        due("4: nevers", x.about(3), 1);
        due("4: units", x.about(11), 1);
        x.decision();
        due("4: nothing is left of it", x.about(0) + x.about(1) + x.about(3) + x.about(5) + x.about(11) + x.about(12), 0);
        due("4: cost anew", x.test(0, 4), 1);
        Bench.put(x, "goal true;draw 5;");
        due("4: goal without conditions", x.decision(), 0);
        due("4: its truths", x.truths(), 1);
    }

    /** Promise 4: what a decision empties, what it leaves, what a fault leaves. */
    private static void decisionKeeps() {
        FlipCover x = Bench.of("cond a;goal a;draw 3;");
        x.run(0);
        x.run(1);
        x.undo();
        x.seen(1, true);
        x.later(9);
        x.image(1);
        int seed = x.about(5);
        Bench.put(x, "cond b;cond c;goal b or;");
        due("4: fault", x.decision(), -1);
        due("4: fault, tape", x.about(10), 0);
        due("4: fault, conditions", x.about(0), 1);
        due("4: fault, truths", x.truths(), 2);
        due("4: fault, log", x.about(2), 1);
        due("4: fault, seed", x.about(5), seed);
        due("4: fault, acts", x.about(6), 1);
        due("4: fault, acts taken back", x.about(7), 1);
        due("4: fault, seen", x.about(8), 1);
        due("4: fault, time", x.about(9), 9);
        due("4: fault, box", x.merge(1), 1);
        Bench.put(x, "cond b;cond c;goal b;draw 4;");
        due("4: new", x.decision(), 2);
        due("4: new, log", x.about(2), 0);
        due("4: new, seed", x.about(5), 4);
        due("4: new, acts", x.about(6), 0);
        due("4: new, acts taken back", x.about(7), 0);
        due("4: new, seen", x.about(8), 0);
        due("4: new, time", x.about(9), 9);
        due("4: new, box", x.merge(1), -1);
        due("4: new, box back", x.back(1), -1);
        due("4: new, first seen", x.seen(0, true), 0);
    }

    /** Promise 4: nothing is left of decisions ahead, nor of texts with a fault. */
    private static void decisionsInTurn() {
        String[] texts = {
            "cond a;cond b;cond c;cond d;goal a and (b or not c) or d;never a and d;never b and c;costs ones * 7 + looks;"
                + "loses 12;draw 34;",
            "cond a;cond b;goal b;never a;costs 3;loses 40;draw 5;",
            "cond b;cond a;cond c;goal a and c;",
            "cond a;cond b;cond c;cond d;goal a and b and a and c or d and b and c or a and d;costs 4;costs 5;",
            "",
            "cond d;never d;never d;never d;never d;goal d or true;loses 1;draw 1;",
            "cond a;",
            "costs ones + looks + number + comes + 4;goal false or (false and true);",
            "cond a;cond b;cond c;cond d;goal d;",
            "cond a;cond b;goal not a and (b or a);"
        };
        FlipCover x = new FlipCover();
        FlipCover good = x;
        for (int n = 0; n < 3 * texts.length; n++) {
            String text = texts[n * 7 % texts.length];
            Bench.put(x, text);
            FlipCover y = Bench.of(text);
            due("4: in turn " + n, x.decision(), y.fault(0) == 0 ? y.about(0) : -1);
            good = y.fault(0) == 0 ? y : good;
            alike("4: in turn " + n, x, good);
        }
    }

    /** Asks two objects for all that hangs on their decisions. */
    private static void alike(String call, FlipCover x, FlipCover y) {
        for (int i = 0; i < 16; i++) {
            due(call + " about " + i, x.about(i), y.about(i));
            due(call + " shown " + i, x.shown(i), y.shown(i));
            for (int what = 0; what < 7; what++) {
                due(call + " test " + i + " " + what, x.test(i, what), y.test(i, what));
            }
            for (int form = 0; form < 3; form++) {
                due(call + " partners " + i + " " + form, x.partners(i % 4, i, form), y.partners(i % 4, i, form));
                due(call + " pairs " + i + " " + form, x.pairs(i, form), y.pairs(i, form));
            }
        }
        for (int f = 0; f < 40; f++) {
            due(call + " shows " + f, x.shows(f), y.shows(f));
        }
        for (int form = 0; form < 3; form++) {
            due(call + " coverable " + form, x.coverable(form), y.coverable(form));
            due(call + " law " + form, x.law(form), y.law(form));
            due(call + " least " + form, x.least(form, 1), y.least(form, 1));
            due(call + " cheapest " + form, x.cheapest(form, 1), y.cheapest(form, 1));
            due(call + " more " + form, x.more(form, 1), y.more(form, 1));
        }
        due(call + " killers", x.killers(1), y.killers(1));
        due(call + " possible", x.possible(), y.possible());
        due(call + " truths", x.truths(), y.truths());
        due(call + " dead", x.dead(), y.dead());
        due(call + " ways", x.ways(), y.ways());
        due(call + " faulties", x.faulties(), y.faulties());
    }

    private static void fault(String text, int sort, int place) {
        FlipCover x = Bench.of(text);
        due("5: <" + text + "> fault", x.fault(0), sort);
        due("5: <" + text + "> place", x.fault(1), place);
        due("5: <" + text + "> -1", x.fault(-1), -1);
        due("5: <" + text + "> 2", x.fault(2), -1);
    }

    private static void fine(String text) {
        fault(text, 0, -1);
    }

    /** Promise 5: 1, what is no token. */
    private static void faultsOfTokens() {
        fault("Cond a;", 1, 0);
        fault("cond A;", 1, 5);
        fault("cond a\t;", 1, 6);
        fault("cond a\r\n;", 1, 6);
        fault("cond a\u0000;", 1, 6);
        fault("cond abcdefghi;", 1, 5);
        fault("cond  abcdefghijklmnop;", 1, 6);
        fine("cond abcdefgh;goal abcdefgh;");
        fault("conditio a;", 2, 0);
        fault("condition a;", 1, 0);
        fault("loses 12345;", 1, 6);
        fault("loses 00001;", 1, 6);
        fault("loses 1x;", 1, 6);
        fault("loses 500x;", 1, 6);
        fault("costs 1and 2;", 1, 6);
        fine("costs 1 and 2;");
        fault("costs 1A;", 1, 7);
        fault("cond a;goal a&a;", 1, 13);
        fault("cond a;cond $;cond a;", 1, 12);
        fault("cond a$", 1, 6);
        fault("cond a; $", 1, 8);
        fault("loses 101 $;", 4, 6);
        fault("goal x $;", 5, 5);
        fault("cond a;cond a$;", 3, 12);
    }

    /** Promise 5: 2, what can't stand there. */
    private static void faultsOfLines() {
        fine("");
        fine(" \n ");
        fault(";", 2, 0);
        fault("x;", 2, 0);
        fault("12;", 2, 0);
        fault("and a;", 2, 0);
        fault("cond", 2, 4);
        fault("cond  ", 2, 6);
        fault("cond a", 2, 6);
        fault("cond a \n", 2, 8);
        fault("cond a;;", 2, 7);
        fault("cond a b;", 2, 7);
        fault("cond a1;", 2, 6);
        fault("cond 5;", 2, 5);
        for (String word : "cond goal never costs loses draw or and not true false number ones looks comes".split(" ")) {
            fault("cond " + word + ";", 2, 5);
        }
        fine("cond x;cond orr;cond nott;cond truth;");
        fault("goal ;", 2, 5);
        fault("goal", 2, 4);
        fault("cond a;goal a a;", 2, 14);
        fault("cond a;goal (a;", 2, 14);
        fault("cond a;goal a);", 2, 13);
        fault("cond a;goal ();", 2, 13);
        fault("cond a;goal a and;", 2, 17);
        fault("cond a;goal a or or a;", 2, 17);
        fault("cond a;goal not;", 2, 15);
        fault("cond a;goal a not a;", 2, 14);
        fault("cond a;goal number;", 2, 12);
        fault("cond a;goal 1;", 2, 12);
        fault("cond a;goal a = a;", 2, 14);
        fault("cond a;never a and", 2, 18);
        fault("cond a;costs a;", 2, 13);
        fault("costs true;", 2, 6);
        fault("costs ;", 2, 6);
        fault("costs -1;", 2, 6);
        fault("costs 1 < 2 < 3;", 2, 12);
        fault("costs 1 + not 2;", 2, 10);
        fault("costs 1 < not 2;", 2, 10);
        fault("costs (1;", 2, 8);
        fault("costs 1);", 2, 7);
        fault("costs 1 2;", 2, 8);
        fine("costs not 1 = 2 and not not 3 or (1 < 2) = (2 < 1);");
        fault("loses ;", 2, 6);
        fault("loses x;", 2, 6);
        fault("loses -1;", 2, 6);
        fault("loses 1 2;", 2, 8);
        fault("draw", 2, 4);
        fault("draw (1);", 2, 5);
    }

    /** Promise 5: 3 a name told already, 4 a number that can't be, 5 a name of nothing. */
    private static void faultsOfNumbersAndNames() {
        fault("cond a;cond a;", 3, 12);
        fault("cond a;cond b;cond a;", 3, 19);
        fault("cond ab;cond ba;cond b;cond ab;", 3, 28);
        fine("loses 0;draw 0;");
        fine("loses 100;draw 999;");
        fine("loses 0100;draw 0999;");
        fault("loses 101;", 4, 6);
        fault("loses 9999;", 4, 6);
        fault("draw 1000;", 4, 5);
        fault("draw   9999;", 4, 7);
        fine("costs 9999;");
        fault("goal a;", 5, 5);
        fault("goal a;cond a;", 5, 5);
        fault("cond a;goal a and (not b);", 5, 23);
        fault("cond a;never aa;", 5, 13);
        fault("never a;cond a;", 5, 6);
        fine("cond a;never a;cond b;never b;goal a or b;");
    }

    /** Promise 5: one of a sort too many, operands and units too many. */
    private static void faultsOfTooMany() {
        fine("cond a;cond b;cond c;cond d;");
        fault("cond a;cond b;cond c;cond d;cond e;", 2, 28);
        fault("cond a;cond b;cond c;cond d;cond a;", 2, 28);
        fault("cond a;cond b;cond c;cond d; cond $;", 2, 29);
        fault("goal true; goal true;", 2, 11);
        fault("costs 1;costs 1;", 2, 8);
        fault("loses 1;loses 1;", 2, 8);
        fault("draw 1;draw 1;", 2, 7);
        fault("draw 0;draw 0;", 2, 7);
        fine("never true;".repeat(4));
        fault("never true;".repeat(5), 2, 44);
        fine("goal true" + " and true".repeat(9) + ";");
        fault("goal true" + " and true".repeat(10) + ";", 2, 95);
        fault("goal true" + " and true".repeat(9) + " and x;", 2, 95);
        fault("goal true" + " and true".repeat(9) + " and (not x);", 2, 100);
        fault("goal true" + " and true".repeat(9) + " and $;", 1, 95);
        fault("goal (true" + " or false".repeat(9) + ") or false;", 2, 96);
        fault("never true" + " and true".repeat(10) + ";", 2, 96);
        fine(("never true" + " and true".repeat(9) + ";").repeat(4) + "goal true" + " or true".repeat(9) + ";");
        fine("costs 1" + "+1".repeat(29) + ";");
        fault("costs 1" + "+1".repeat(30) + ";", 2, 66);
        fault("costs 1" + "+1".repeat(29) + "+;", 2, 66);
        fault("costs 1" + "+1".repeat(29) + "+(1);", 2, 66);
        fault("costs 1" + "+1".repeat(29) + " and not looks;", 2, 74);
        fault("costs 1" + "+1".repeat(29) + "+$;", 1, 66);
        // a unit ( e ) is one, too
        fine("costs (1)" + "+(1)".repeat(14) + ";");
        fault("costs (1)" + "+(1)".repeat(14) + "+1;", 2, 66);
        fault("costs 1" + "+1".repeat(28) + "+(1);", 2, 65);
        due("5: units", Bench.of("costs (1)" + "+(1)".repeat(14) + ";").about(11), 30);
    }

    /** Promise 5: what is within 7 others. */
    private static void faultsOfDepth() {
        fine("goal " + "not ".repeat(7) + "true;");
        fault("goal " + "not ".repeat(8) + "true;", 2, 33);
        fine("goal " + "(".repeat(7) + "true" + ")".repeat(7) + ";");
        fault("goal " + "(".repeat(8) + "true" + ")".repeat(8) + ";", 2, 12);
        fault("goal not (not (not (not (true))));", 2, 24);
        fine("goal not (not (not (not true)));");
        fault("goal (((not not not not not true)));", 2, 8 + 16);
        fine("goal (((not not not not true)) and ((not not not not true)) or (((((true))))));");
        fault("goal " + "not ".repeat(8) + "$;", 2, 33);
        fault("never " + "not ".repeat(7) + "(true);", 2, 34);
        fine("costs " + "not ".repeat(7) + "1;");
        fault("costs " + "not ".repeat(8) + "1;", 2, 34);
        fine("costs " + "(".repeat(7) + "1" + ")".repeat(7) + ";");
        fault("costs " + "(".repeat(8) + "1" + ")".repeat(8) + ";", 2, 13);
        fault("costs " + "not ".repeat(7) + "1 < (2);", 2, 38);
        fine("costs " + "not ".repeat(6) + "1 < (2);");
        fine("costs " + "not ".repeat(7) + "1 and (2);");
    }

    /** Tokens are parted by blanks or not, each as long as can be. */
    private static void blanksAndWords() {
        FlipCover x = Bench.of("cond\na;cond b\n;goal(not a)or(b);costs 2*ones+1;loses  5;");
        due("5: dense", x.fault(0), 0);
        due("5: dense, truths", x.truths(), 13);
        due("5: dense, cost", x.test(3, 4), 5);
        x = Bench.of("cond a;cond nota;goal nota;");
        due("5: a word as long as can be", x.truths(), 12);
        x = Bench.of("cond a;goal(a)and(a)or not(a);");
        due("5: words by signs", x.truths(), 3);
        x = Bench.of("costs 12 34;");
        due("5: two numbers", x.fault(1), 9);
        x = Bench.of("cond ab;cond a;cond b;goal a;");
        due("5: names by all their letters", x.truths(), 0xCC);
        // the latest decision's fault is told
        x = Bench.of("cond;");
        due("5: first fault", x.fault(0), 2);
        Bench.put(x, "loses 101;");
        x.decision();
        due("5: second fault", x.fault(0), 4);
        Bench.put(x, "cond a;");
        x.decision();
        due("5: no fault", x.fault(0), 0);
        due("5: no place", x.fault(1), -1);
    }

    /** Promise 6. */
    private static void test() {
        FlipCover x = Bench.of("cond a;cond b;cond c;goal a and b or not c;never a and c;costs number * 2 + looks;");
        // a, b; c is looked at if a and b is not true
        int[] comes = {1, 1, 1, 1, 0, 0, 0, 1};
        int[] can = {1, 1, 1, 1, 1, 0, 1, 0};
        int[] looks = {5, 7, 5, 3, 5, 7, 5, 3};
        int[] sways = {4, 4, 4, 0, 4, 6, 5, 3};
        for (int t = 0; t < 8; t++) {
            x.run(t);
            due("6: comes " + t, x.test(t, 0), comes[t]);
            due("6: can " + t, x.test(t, 1), can[t]);
            due("6: looks " + t, x.test(t, 2), looks[t]);
            due("6: how many " + t, x.test(t, 3), Integer.bitCount(looks[t]));
            due("6: cost " + t, x.test(t, 4), t * 2 + Integer.bitCount(looks[t]));
            due("6: sways " + t, x.test(t, 5), sways[t]);
            due("6: in the log " + t, x.test(t, 6), can[t]);
            due("6: another what " + t, x.test(t, 7), -1);
            due("6: what -1 " + t, x.test(t, -1), -1);
        }
        x.drop(1);
        due("6: out of the log", x.test(1, 6), 0);
        for (int what = 0; what <= 6; what++) {
            due("6: no test 8", x.test(8, what), -1);
            due("6: no test -1", x.test(-1, what), -1);
            due("6: no test, far", x.test(Integer.MAX_VALUE, what), -1);
        }
        // and binds closer than or; not closest
        due("6: binding", Bench.of("cond a;cond b;cond c;goal a or b and not a or c;").truths(), 0xFE);
        due("6: brackets", Bench.of("cond a;cond b;cond c;goal (a or b) and not (a or c);").truths(), 4);
        due("6: not thrice", Bench.of("cond a;goal not not not a;").truths(), 1);
        due("6: not four times", Bench.of("cond a;goal not not not not a;").truths(), 2);
        due("6: not of ( )", Bench.of("cond a;cond b;goal not (not a and not b);").truths(), 14);
        due("6: true, false", Bench.of("cond a;goal false or true and a;").truths(), 2);
        due("6: fourth condition", Bench.of("cond a;cond b;cond c;cond d;goal d;").truths(), 0xFF00);
    }

    private static int cost(String e, int test) {
        return Bench.of("cond a;cond b;goal a and b;costs " + e + ";").test(test, 4);
    }

    /** Promise 6: what costs come to. */
    private static void costs() {
        due("6: cost untold", Bench.of("cond a;").test(1, 4), 1);
        due("6: 100 is 99", cost("100", 0), 99);
        due("6: below 0 is 0", cost("1 - 5", 0), 0);
        due("6: between, below 0", cost("1 - 5 + 7", 0), 3);
        due("6: from the left", cost("9 - 4 - 3", 0), 2);
        due("6: products first", cost("2 + 3 * 4", 0), 14);
        due("6: products from the left", cost("7 / 2 * 2", 0), 6);
        due("6: rest", cost("17 % 5", 0), 2);
        due("6: cut towards 0", cost("10 + (0 - 7) / 2", 0), 7);
        due("6: rest below 0", cost("10 + (0 - 7) % 4", 0), 7);
        due("6: by 0", cost("5 / (1 - 1)", 0), 0);
        due("6: rest by 0", cost("5 % 0 + 3", 0), 3);
        due("6: number", cost("number", 2), 2);
        due("6: ones", cost("ones", 3), 2);
        due("6: looks 1", cost("looks", 2), 1);
        due("6: looks 2", cost("looks", 1), 2);
        due("6: comes", cost("comes", 3), 1);
        due("6: comes 0", cost("comes", 1), 0);
        due("6: less", cost("1 < 2", 0) * 4 + cost("2 < 2", 0) * 2 + cost("3 < 2", 0), 4);
        due("6: more", cost("1 > 2", 0) * 4 + cost("2 > 2", 0) * 2 + cost("3 > 2", 0), 1);
        due("6: like", cost("1 = 2", 0) * 4 + cost("2 = 2", 0) * 2 + cost("3 = 2", 0), 2);
        due("6: sums ahead of relations", cost("1 + 1 = 2", 0), 1);
        due("6: and of what is not 0", cost("5 and 0 - 3", 0), 1);
        due("6: and 0", cost("5 and 0", 0), 0);
        due("6: 1 and 1", cost("1 and 1", 0), 1);
        due("6: 1 and 0", cost("1 and 0", 0), 0);
        due("6: 0 and 1", cost("0 and 1", 0), 0);
        due("6: 0 and 5", cost("0 and 5", 0), 0);
        due("6: 1 or 0", cost("1 or 0", 0), 1);
        due("6: or", cost("0 or 7", 0), 1);
        due("6: or 0", cost("0 or 0", 0), 0);
        due("6: and ahead of or", cost("1 or 1 and 0", 0), 1);
        due("6: not", cost("not 5", 0), 0);
        due("6: not 0", cost("not 0", 0), 1);
        due("6: not not", cost("not not 5", 0), 1);
        due("6: not of the relation", cost("not 3 = 4", 0), 1);
        due("6: not within", cost("(not 0) * 7", 0), 7);
        due("6: one alone is what it is", cost("(5)", 0), 5);
        // 65536 * 65536 is 0, 2 to the 31st the least int
        due("6: wraps to 0", cost("(4096 * 16) * (4096 * 16) + 4", 0), 4);
        due("6: wraps below 0", cost("4096 * 4096 * 128 < 0", 0), 1);
        due("6: the least by -1", cost("4096 * 4096 * 128 / (0 - 1) < 0", 0), 1);
        due("6: rest of the least by -1", cost("4096 * 4096 * 128 % (0 - 1) = 0", 0), 1);
        // costs told ahead of the goal are of the goal
        due("6: told ahead", Bench.of("costs looks;cond a;goal a or not a;").test(0, 4), 2);
    }

    /** Promise 7. */
    private static void look() {
        FlipCover x = Bench.of("cond a;cond b;goal not (a or true) and ((b)) or not not not a and false;");
        int[] conditions = {0, -1, 1, 0, -1};
        int[] within = {2, 2, 2, 3, 0};
        for (int look = 0; look < 5; look++) {
            due("7: condition " + look, x.look(look, 0), conditions[look]);
            due("7: within " + look, x.look(look, 1), within[look]);
            due("7: another what " + look, x.look(look, 2), -2);
            due("7: what -1 " + look, x.look(look, -1), -2);
        }
        due("7: no look 5", x.look(5, 0), -2);
        due("7: no look -1", x.look(-1, 1), -2);
        due("7: deepest", Bench.of("goal " + "(".repeat(7) + "true" + ")".repeat(7) + ";").look(0, 1), 7);
        due("7: looks of a never are none", Bench.of("cond a;never a;").look(0, 0), -2);
    }
}
