/** Edges of part 4 of the Terms and of promises 43 to 48: what is seen, when, what fits it, what to ask. */
public final class EdgeSeenTest {
    private static final Edge edge = new Edge();
    // true in tests 3, 5, 7; eleven faulty goals
    private static final String AND_OR = "cond a;cond b;cond c;goal a and (b or c);";

    public static void main(String[] args) {
        thirtySeen();
        anyTest();
        untoldOnce();
        soMuchLater();
        lastTime();
        timeGoesOn();
        toldAtOrBefore();
        untoldAtOrBefore();
        atTheSameTime();
        knownAtAnyTime();
        fits();
        fitsOfEach();
        culprits();
        asked();
        askedOfLikeOnes();
        edge.end("EdgeSeenTest");
    }

    private static void due(String call, long got, long want) {
        edge.due(call, got, want);
    }

    private static void due(String call, boolean got, boolean want) {
        edge.due(call, got, want);
    }

    private static void thirtySeen() {
        edge.of("43: NONE, doing nothing, if there is no such TEST, or there are 30");
        FlipCover x = Bench.of(AND_OR);
        for (int n = 0; n < 30; n++) {
            due("no test 8, " + n, x.seen(8, true), -1);
            due("no test -1, " + n, x.seen(-1, false), -1);
            due("so many, " + n, x.about(8), n);
            due("its number", x.seen(n % 2 == 0 ? 3 : 0, n % 2 == 0), n);
        }
        for (int t = 0; t < 8; t++) {
            due("there are 30, " + t, x.seen(t, t == 0), -1);
            due("30", x.about(8), 30);
        }
        due("what is seen still fits", x.fits(0), 7);
        due("the last one is untold", x.untell(29), true);
        due("no thirty-first", x.untell(30), false);
        due("there are 30, one is untold", x.seen(1, true), -1);
        for (int n = 0; n < 29; n++) {
            due("untold " + n, x.untell(n), true);
        }
        due("there are 30, all are untold", x.seen(1, true), -1);
        due("all fit", x.fits(0), 12);
        x.later(1000);
        due("there are 30, later, too", x.seen(1, true), -1);
        for (int far : Edge.FAR) {
            due("no test " + far, new FlipCover().seen(far, true), -1);
        }
        due("the log is as it was", x.about(2), 0);
        due("no act", x.about(6), 0);
    }

    private static void anyTest() {
        edge.of("4: to what a TEST (any) came");
        FlipCover x = Bench.of(AND_OR + "never true;");
        for (int t = 0; t < 8; t++) {
            due("one that can't be, " + t, x.seen(t, t == 3 || t >= 5 && t != 6), t);
        }
        due("none but none", x.fits(0), 1);
        due("none", x.culprit(0, 0), -1);
        for (int n = 0; n <= 4; n++) {
            x = Bench.of(Edge.conds(n));
            due("the last of " + n, x.seen((1 << n) - 1, false), 0);
            due("one more than " + n, x.seen(1 << n, false), -1);
        }
    }

    private static void untoldOnce() {
        edge.of("44: false if it is so already, or there is none such");
        FlipCover x = Bench.of(AND_OR);
        due("none is there", x.untell(0), false);
        for (int n = 0; n < 30; n++) {
            due("not yet " + n, x.untell(n), false);
            x.seen(3, false);
            due("there now " + n, x.untell(n), true);
            due("already " + n, x.untell(n), false);
            due("-1", x.untell(-1), false);
        }
        for (int far : Edge.FAR) {
            due("" + far, x.untell(far), false);
        }
        due("30", x.untell(30), false);
        x = Bench.of(AND_OR);
        x.seen(3, false);
        x.untell(0);
        x.later(10);
        due("already, later", x.untell(0), false);
        due("its time is the first one: at 0", x.fits(0), 12);
        due("its time is the first one: at 9", x.fits(9), 12);
    }

    private static void soMuchLater() {
        edge.of("45: So much later (0 .. 1000); NONE, doing nothing, for another number");
        FlipCover x = new FlipCover();
        due("0 at first", x.about(9), 0);
        due("0", x.later(0), 0);
        due("-1", x.later(-1), -1);
        due("1001", x.later(1001), -1);
        for (int far : Edge.FAR) {
            due("" + far, x.later(far), -1);
            due("nothing done", x.about(9), 0);
        }
        due("1000", x.later(1000), 1000);
        due("999", x.later(999), 1999);
        due("1", x.later(1), 2000);
        due("-1 again", x.later(-1), -1);
        due("1001 again", x.later(1001), -1);
        due("the time", x.about(9), 2000);
        int time = 2000;
        for (int by = 0; by <= 400; by++) {
            time += by;
            due("by " + by, x.later(by), time);
        }
    }

    private static void lastTime() {
        edge.of("45: NONE, doing nothing, if it would be above 100,000");
        for (int left : new int[] {0, 1, 2, 500, 999, 1000}) {
            FlipCover x = new FlipCover();
            for (int n = 0; n < 99; n++) {
                x.later(1000);
            }
            due("nearly", x.later(1000 - left), 100000 - left);
            due("one more than " + left, x.later(left + 1), -1);
            due("1000 more", x.later(1000), left == 1000 ? 100000 : -1);
            due("the time", x.about(9), left == 1000 ? 100000 : 100000 - left);
            due("just so much", x.later(left == 1000 ? 0 : left), 100000);
            due("no 1 more", x.later(1), -1);
            due("0 more", x.later(0), 100000);
            due("the last time", x.about(9), 100000);
        }
        FlipCover x = Bench.of(AND_OR);
        for (int n = 0; n < 100; n++) {
            x.later(1000);
        }
        x.later(1);
        x.seen(1, false);
        due("told at the last time", x.fits(100000), 7);
        due("told not ahead of it", x.fits(99999), 12);
        x.untell(0);
        due("untold at the last time", x.fits(100000), 12);
    }

    private static void timeGoesOn() {
        edge.of("4: at a TIME (0 at first, goes on); 4: the TIME stays");
        FlipCover x = new FlipCover();
        x.later(7);
        for (String text : new String[] {AND_OR, "cond a;cond a;", "", "$"}) {
            Bench.put(x, text);
            x.decision();
            due("behind <" + text + ">", x.about(9), 7);
        }
        Bench.put(x, AND_OR);
        x.decision();
        x.run(0);
        x.image(0);
        x.later(3);
        x.undo();
        due("behind an undo", x.about(9), 10);
        x.back(0);
        due("behind back", x.about(9), 10);
        x.seen(1, true);
        x.untell(0);
        due("behind what is seen", x.about(9), 10);
    }

    private static void toldAtOrBefore() {
        edge.of("4: As known at k that counts that was TOLD at k or before");
        for (int time : new int[] {0, 1, 2, 500, 1000}) {
            FlipCover x = Bench.of(AND_OR);
            x.later(time);
            x.seen(1, false);
            x.later(5);
            due("a time ahead of " + time, x.fits(time - 1), 12);
            due("at " + time, x.fits(time), 7);
            due("behind " + time, x.fits(time + 1), 7);
            due("a culprit ahead of " + time, x.culprit(1, time - 1), 0);
            due("a culprit at " + time, x.culprit(1, time), 1);
            due("to ask ahead of " + time, x.ask(0, time - 1), 1);
            due("to ask at " + time, x.ask(0, time), 3);
            due("left ahead of " + time, x.ask(1, time - 1), 7);
            due("left at " + time, x.ask(1, time), 4);
        }
    }

    private static void untoldAtOrBefore() {
        edge.of("4: not UNTOLD at k or before");
        for (int after : new int[] {1, 2, 999, 1000}) {
            FlipCover x = Bench.of(AND_OR);
            x.later(3);
            x.seen(1, false);
            x.later(after);
            x.untell(0);
            x.later(1000);
            due("ahead of it is told", x.fits(2), 12);
            due("told", x.fits(3), 7);
            due("a time ahead of " + after, x.fits(2 + after), 7);
            due("untold at " + after, x.fits(3 + after), 12);
            due("untold behind " + after, x.fits(4 + after), 12);
            due("a culprit ahead", x.culprit(1, 2 + after), 1);
            due("a culprit then", x.culprit(1, 3 + after), 0);
            due("asked ahead", x.ask(0, 2 + after), 3);
            due("asked then", x.ask(0, 3 + after), 1);
        }
    }

    private static void atTheSameTime() {
        edge.of("4: UNTOLD at a later one or the same");
        FlipCover x = Bench.of(AND_OR);
        x.later(5);
        x.seen(1, false);
        due("at the same time", x.untell(0), true);
        x.later(5);
        for (int k = 3; k <= 11; k++) {
            due("it never counts, " + k, x.fits(k), 12);
        }
        x.seen(1, false);
        x.seen(3, true);
        x.untell(2);
        due("the other one counts", x.fits(10), 7);
        due("told again", x.seen(3, true), 3);
        due("it counts", x.fits(10), 3);
        due("not ahead", x.fits(9), 12);
    }

    private static void knownAtAnyTime() {
        edge.of("4: As known at k: k of any size");
        FlipCover x = Bench.of(AND_OR);
        x.seen(1, false);
        x.later(10);
        x.untell(0);
        x.seen(3, true);
        int[] times = {Integer.MIN_VALUE, -100001, -1, 0, 9, 10, 11, 100000, 100001, Integer.MAX_VALUE};
        int[] want = {12, 12, 12, 7, 7, 7, 7, 7, 7, 7};
        int[] second = {0, 0, 0, 1, 1, 0, 0, 0, 0, 0};
        for (int i = 0; i < times.length; i++) {
            due("fits at " + times[i], x.fits(times[i]), want[i]);
            due("culprit at " + times[i], x.culprit(1, times[i]), second[i]);
        }
    }

    private static void fits() {
        edge.of("46: FITS: numbers of FAULTY goals, -1 of none");
        FlipCover x = Bench.of("cond a;goal a" + " and a".repeat(9) + ";");
        due("none and 39", x.fits(0), 40);
        due("the last", x.culprit(39, 0), 38);
        due("no more", x.culprit(40, 0), -2);
        x.seen(0, true);
        // one fault alone does not make up for nine looks that are 0
        due("0 came to 1", x.fits(0), 0);
        x.seen(0, false);
        due("0 came to both", x.fits(0), 0);
        due("none is the first", x.culprit(0, 0), -2);
        due("without a goal", new FlipCover().fits(0), 1);
        x = Bench.of("cond a;");
        x.seen(0, true);
        due("without a goal, 1", x.fits(0), 0);
        x.untell(0);
        x.seen(1, false);
        due("without a goal, 0", x.fits(0), 1);
        due("none", x.culprit(0, 0), -1);
    }

    /** How many goals, faulty or not, come to this by a test, by what each one shows (where all can be). */
    private static int count(FlipCover x, int test, boolean is) {
        int count = (x.test(test, 0) == 1) == is ? 1 : 0;
        for (int f = 0; f < x.faulties(); f++) {
            int comes = x.test(test, 0) ^ x.shows(f) >> test & 1;
            count += (comes == 1) == is ? 1 : 0;
        }
        return count;
    }

    private static void fitsOfEach() {
        edge.of("46: by which all that counts is so");
        for (int t = 0; t < 8; t++) {
            for (int is = 0; is < 2; is++) {
                FlipCover x = Bench.of(AND_OR);
                x.seen(t, is == 1);
                due(t + " came to " + is, x.fits(0), count(x, t, is == 1));
                x.seen(t, is == 1);
                due(t + " came to " + is + " twice", x.fits(0), count(x, t, is == 1));
                x.untell(0);
                due("told twice, untold once", x.fits(0), count(x, t, is == 1));
                x.untell(1);
                due("untold twice", x.fits(0), 12);
                x.seen(t, is == 0);
                x.seen(t, is == 1);
                due(t + " came to both", x.fits(0), 0);
                due("none to ask", x.ask(0, 0), -1);
                due("none is left", x.ask(1, 0), -1);
            }
        }
    }

    private static void culprits() {
        edge.of("47: The i-th (0 ..) of FITS, from -1 on; -2 if there is none such");
        FlipCover x = Bench.of(AND_OR);
        for (int i = 0; i < 12; i++) {
            due("all, " + i, x.culprit(i, 0), i - 1);
        }
        due("12", x.culprit(12, 0), -2);
        due("-1", x.culprit(-1, 0), -2);
        for (int far : Edge.FAR) {
            due("" + far, x.culprit(far, 0), -2);
        }
        x.seen(3, false);
        // 1, 2, 3, 5, 7 alone
        int[] want = {1, 2, 3, 5, 7};
        due("five", x.fits(0), 5);
        for (int i = 0; i < 5; i++) {
            due("3 came to 0, " + i, x.culprit(i, 0), want[i]);
        }
        due("5", x.culprit(5, 0), -2);
        due("-1 of five", x.culprit(-1, 0), -2);
        x.seen(3, true);
        due("0 of none", x.culprit(0, 0), -2);
    }

    private static void asked() {
        edge.of("48: NONE if none FITS, no TEST CAN BE, or for another what");
        FlipCover x = Bench.of(AND_OR);
        due("0", x.ask(0, 0), 1);
        due("1", x.ask(1, 0), 7);
        due("2", x.ask(2, 0), -1);
        due("-1", x.ask(-1, 0), -1);
        for (int far : Edge.FAR) {
            due("" + far, x.ask(far, 0), -1);
        }
        x = Bench.of(AND_OR + "never true;");
        due("no test can be", x.ask(0, 0), -1);
        due("no test can be, left", x.ask(1, 0), -1);
        due("though all fit", x.fits(0), 12);
        x = Bench.of(AND_OR);
        x.seen(0, true);
        x.seen(0, false);
        due("none fits", x.ask(0, 0), -1);
        due("none fits, left", x.ask(1, 0), -1);
        due("all fit ahead", x.ask(1, -1), 7);
        edge.of("48: one is left alone");
        x = Bench.of("cond a;");
        due("the first", x.ask(0, 0), 0);
        due("one", x.ask(1, 0), 1);
        due("the first that can be", Bench.of("cond a;never not a;").ask(0, 0), 1);
        due("without conditions", new FlipCover().ask(0, 0), 0);
    }

    private static void askedOfLikeOnes() {
        edge.of("48: would leave the fewest of these at the most; of like ones the first");
        String[] goals = {"a and (b or c)", "a or b", "a", "not a and b or c", "true", "a and b and c"};
        for (String goal : goals) {
            for (int t = 0; t < 8; t++) {
                FlipCover x = Bench.of(Edge.conds(3) + "goal " + goal + ";");
                due("of one that came", x.seen(t, x.test(t, 0) == 1), 0);
                int best = -1;
                int fewest = 99;
                for (int asked = 0; asked < 8; asked++) {
                    x.seen(asked, true);
                    int ones = x.fits(0);
                    x.untell(x.about(8) - 1);
                    int left = Math.max(ones, x.fits(0) - ones);
                    if (left < fewest) {
                        best = asked;
                        fewest = left;
                    }
                }
                due(goal + ", test", x.ask(0, 0), best);
                due(goal + ", left", x.ask(1, 0), fewest);
            }
        }
        FlipCover x = Bench.of(AND_OR + "never a and not b and not c;never not a and not b and c;");
        x.seen(1, false);
        due("the first of like ones", x.ask(0, 0), 3);
        x = Bench.of(AND_OR + "never a and b;");
        x.seen(1, false);
        due("the first can't be", x.ask(0, 0), 5);
    }
}
