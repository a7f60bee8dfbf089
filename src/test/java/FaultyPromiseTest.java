/** Promises 30, 32 to 41 and 43 to 48: what is looked at, faulty goals, and which of them there is by what was seen. */
public final class FaultyPromiseTest {
    private static final Bench bench = new Bench();
    // true in tests 3, 5, 7
    private static final String AND_OR = "cond a;cond b;cond c;goal a and (b or c);";
    // links 0 1, then a b c turned over, then a b c told 0, told 1
    private static final int[] SHOWS = {86, 40, 252, 10, 34, 168, 84, 8, 2, 32, 2};
    private static final int[] KINDS = {0, 0, 1, 1, 1, 2, 3, 2, 3, 2, 3};
    private static final int[] PLACES = {0, 1, 0, 1, 2, 0, 0, 1, 1, 2, 2};

    public static void main(String[] args) {
        dead();
        ways();
        mean();
        faulties();
        faulty();
        shows();
        chains();
        shown();
        alive();
        killers();
        exchange();
        law();
        seen();
        untell();
        later();
        fits();
        times();
        culprit();
        ask();
        bench.end("FaultyPromiseTest");
    }

    private static void due(String call, long got, long want) {
        bench.due(call, got, want);
    }

    private static void due(String call, boolean got, boolean want) {
        bench.due(call, got, want);
    }

    /** Promise 30. */
    private static void dead() {
        due("30: none", Bench.of(AND_OR).dead(), 0);
        due("30: without a goal", Bench.of("cond a;").dead(), 0);
        due("30: behind true", Bench.of("cond a;goal true or a or a;").dead(), 6);
        due("30: behind false", Bench.of("cond a;goal a and (false and a);").dead(), 4);
        due("30: what can be is always true", Bench.of("cond a;cond b;goal a or b;never not a;").dead(), 2);
        due("30: b only if a", Bench.of("cond a;cond b;goal a and b and a;never a and b;").dead(), 4);
        due("30: nothing can be", Bench.of(AND_OR + "never true;").dead(), 7);
        FlipCover x = Bench.of("cond a;cond b;goal a or b;");
        x.run(1);
        due("30: whatever the log", x.dead(), 0);
    }

    /** Promise 32. */
    private static void ways() {
        due("32: a; a b; a b c twice", Bench.of(AND_OR).ways(), 4);
        due("32: one can't be", Bench.of(AND_OR + "never a and c and not b;").ways(), 3);
        due("32: nothing can be", Bench.of(AND_OR + "never true;").ways(), 0);
        due("32: nothing is looked at", Bench.of("cond a;cond b;").ways(), 1);
        due("32: without conditions", new FlipCover().ways(), 1);
        due("32: one look, 0 or 1", Bench.of("cond a;goal a;").ways(), 2);
        due("32: true", Bench.of("cond a;goal true;").ways(), 1);
        due("32: like looks, unlike what they are", Bench.of("cond a;cond b;goal a and true or not a and false;").ways(), 2);
        due("32: told again", Bench.of("cond a;cond b;goal a or b or a or b;").ways(), 3);
        due("32: sixteen", Bench.of("cond a;cond b;cond c;cond d;"
            + "goal (a or true) and (b or true) and (c or true) and d;").ways(), 16);
    }

    /** Promise 33. */
    private static void mean() {
        FlipCover x = Bench.of(AND_OR);
        // 14 by 8 tests
        due("33: upper", x.mean(0), 7);
        due("33: lower", x.mean(1), 4);
        due("33: another part", x.mean(2), -1);
        due("33: part -1", x.mean(-1), -1);
        x = Bench.of(AND_OR + "never b and c;");
        due("33: of those that can be, upper", x.mean(0), 11);
        due("33: of those that can be, lower", x.mean(1), 6);
        x = Bench.of(AND_OR + "never true;");
        due("33: there are none, upper", x.mean(0), 0);
        due("33: there are none, lower", x.mean(1), 1);
        x = Bench.of("cond a;");
        due("33: nothing is looked at, upper", x.mean(0), 0);
        due("33: nothing is looked at, lower", x.mean(1), 1);
        due("33: a whole one, upper", Bench.of("cond a;goal a and true and true;").mean(0), 2);
        due("33: a whole one, lower", Bench.of("cond a;goal a and true and true;").mean(1), 1);
        due("33: half, upper", Bench.of("cond a;goal a or true;").mean(0), 3);
        due("33: half, lower", Bench.of("cond a;goal a or true;").mean(1), 2);
    }

    /** Promise 34. */
    private static void faulties() {
        due("34: two links, three looks", Bench.of(AND_OR).faulties(), 11);
        due("34: without a goal", Bench.of("cond a;").faulties(), 0);
        due("34: a new object", new FlipCover().faulties(), 0);
        due("34: true", Bench.of("goal not true;").faulties(), 3);
        due("34: not of never", Bench.of("cond a;goal a;never a and a;").faulties(), 3);
        due("34: most", Bench.of("cond a;goal a and a and a and a and a or a and a and a and a and a;").faulties(), 39);
    }

    /** Promise 35. */
    private static void faulty() {
        FlipCover x = Bench.of(AND_OR);
        for (int f = 0; f < 11; f++) {
            due("35: kind of " + f, x.faulty(f, 0), KINDS[f]);
            due("35: place of " + f, x.faulty(f, 1), PLACES[f]);
            due("35: another what of " + f, x.faulty(f, 2), -1);
            due("35: what -1 of " + f, x.faulty(f, -1), -1);
        }
        for (int what = 0; what < 2; what++) {
            due("35: none such", x.faulty(11, what), -1);
            due("35: none such -1", x.faulty(-1, what), -1);
            due("35: none such, highest", x.faulty(Integer.MAX_VALUE, what), -1);
            due("35: without a goal", new FlipCover().faulty(0, what), -1);
        }
    }

    /** Promise 36. */
    private static void shows() {
        FlipCover x = Bench.of(AND_OR);
        for (int f = 0; f < 11; f++) {
            due("36: of " + f, x.shows(f), SHOWS[f]);
        }
        due("36: none such", x.shows(11), -1);
        due("36: none such -1", x.shows(-1), -1);
        x = Bench.of(AND_OR + "never b and c;");
        for (int f = 0; f < 11; f++) {
            due("36: that can be, of " + f, x.shows(f), SHOWS[f] & 63);
        }
        x = Bench.of("cond a;goal not a;");
        due("36: a look turned over, not of it", x.shows(0), 3);
        due("36: told 0 within not", x.shows(1), 2);
        due("36: told 1 within not", x.shows(2), 1);
    }

    /** Promises 35, 36: all is put together as it was when a link is turned. */
    private static void chains() {
        FlipCover x = Bench.of("cond x;cond y;cond z;goal x and y and z;");
        // (x or y) and z: 5 6 7
        due("36: x and y and z, the first", x.shows(0), 1 << 5 | 1 << 6);
        // (x and y) or z: 3 4 5 6 7
        due("36: x and y and z, the second", x.shows(1), 1 << 3 | 1 << 4 | 1 << 5 | 1 << 6);
        x = Bench.of("cond x;cond y;cond z;goal x or y and z;");
        // x and (y and z): 7, of 1 3 5 6 7
        due("36: x or y and z, the first", x.shows(0), 1 << 1 | 1 << 3 | 1 << 5 | 1 << 6);
        // x or (y or z): 1 .. 7
        due("36: x or y and z, the second", x.shows(1), 1 << 2 | 1 << 4);
        x = Bench.of("cond x;cond y;cond z;goal (x or y) and z or x;");
        due("36: as they stand, the first is in ( )", x.shows(0), 1 << 6);
        due("36: as they stand, which", x.faulty(2, 1), 2);
        // z or x or y, of 1 3 5 6 7
        due("36: as they stand, the second", x.shows(1), 1 << 2 | 1 << 4);
        // (x or y) and z and x: 5 7
        due("36: as they stand, the third", x.shows(2), 1 << 1 | 1 << 3 | 1 << 6);
    }

    /** Promise 37. */
    private static void shown() {
        FlipCover x = Bench.of(AND_OR);
        int[] want = {0, 5, 3, 5, 3, 5, 3, 2};
        for (int t = 0; t < 8; t++) {
            due("37: by " + t, x.shown(t), want[t]);
        }
        due("37: none such", x.shown(8), -1);
        due("37: none such -1", x.shown(-1), -1);
        due("37: it can't be", Bench.of(AND_OR + "never a and b and c;").shown(7), 0);
        due("37: most", Bench.of("cond a;goal a and a and a and a and a and a and a and a and a and a;").shown(1), 20);
    }

    /** Promise 38. */
    private static void alive() {
        FlipCover x = Bench.of(AND_OR);
        due("38: empty log", x.alive(0), 11);
        due("38: all are shown by some", x.alive(1), 0);
        x.run(3);
        due("38: 1 2 3 5 7 are shown", x.alive(0), 6);
        x.run(5);
        due("38: 4 and 9 too", x.alive(0), 4);
        x.run(0);
        due("38: 0 shows none", x.alive(0), 4);
        x.run(1);
        due("38: 0, 8 and 10 too", x.alive(0), 1);
        x.run(6);
        due("38: all", x.alive(0), 0);
        x.drop(3);
        due("38: one by 3 alone", x.alive(0), 1);
        due("38: another what", x.alive(2), -1);
        due("38: what -1", x.alive(-1), -1);
        due("38: a told 1", Bench.of(AND_OR + "never not a;").alive(1), 1);
        due("38: nothing can be", Bench.of(AND_OR + "never true;").alive(1), 11);
        // the look behind true makes no difference, nor true told 1
        due("38: nobody can", Bench.of("cond a;goal true or a;").alive(1), 4);
        due("38: without a goal", new FlipCover().alive(1), 0);
    }

    /** Promise 39. */
    private static void killers() {
        FlipCover x = Bench.of(AND_OR);
        due("39: how many", x.killers(0), 4);
        due("39: which", x.killers(1), 46);
        due("39: another what", x.killers(2), -1);
        due("39: what -1", x.killers(-1), -1);
        x.run(1);
        due("39: whatever the log", x.killers(1), 46);
        due("39: of like ones the least", Bench.of("cond a;cond b;goal a;").killers(1), 3);
        due("39: that can be", Bench.of(AND_OR + "never not a and not c;").killers(1), 1 << 1 | 1 << 3 | 1 << 4 | 1 << 5);
        due("39: what none shows needs none", Bench.of(AND_OR + "never not a;").killers(1), 42);
        due("39: nothing can be", Bench.of(AND_OR + "never true;").killers(0), 0);
        due("39: nothing can be, which", Bench.of(AND_OR + "never true;").killers(1), 0);
        due("39: without a goal", Bench.of("cond a;").killers(1), 0);
    }

    /** Promise 40. */
    private static void exchange() {
        FlipCover x = Bench.of(AND_OR);
        due("40: b and c", x.exchange(1, 2), 1);
        due("40: c and b", x.exchange(2, 1), 1);
        due("40: a and b", x.exchange(0, 1), 0);
        due("40: itself", x.exchange(0, 0), 1);
        due("40: as ahead", x.truths(), 168);
        due("40: no such look", x.exchange(0, 3), -1);
        due("40: no such look, ahead", x.exchange(3, 0), -1);
        due("40: no look -1", x.exchange(0, -1), -1);
        due("40: no look -1, ahead", x.exchange(-1, 0), -1);
        x = Bench.of("cond a;cond b;goal a and b and true or false;");
        due("40: a look is true", x.exchange(0, 2), -1);
        due("40: a look is false", x.exchange(3, 1), -1);
        due("40: a look is true, itself", x.exchange(2, 2), -1);
        due("40: neither", x.exchange(0, 1), 1);
        x = Bench.of("cond a;cond b;goal a and not b;never a and not b;never b and not a;");
        due("40: what can't be counts too", x.exchange(0, 1), 0);
        x = Bench.of("cond a;cond b;cond c;goal a and b or a and c;");
        due("40: both are of a", x.exchange(0, 2), 1);
        due("40: b and c, a at both", x.exchange(1, 3), 1);
        due("40: a and c", x.exchange(0, 3), 0);
    }

    /** Promise 41. */
    private static void law() {
        for (int form = 0; form < 3; form++) {
            due("41: all", Bench.of(AND_OR).law(form), 3);
            due("41: were no never told", Bench.of(AND_OR + "never true;").law(form), 3);
            due("41: coverable, as it is told", Bench.of(AND_OR + "never true;").coverable(form), 0);
            due("41: one is not in the goal", Bench.of("cond a;cond b;goal b;").law(form), 1);
            due("41: always true", Bench.of("cond a;goal a or not a;").law(form), 0);
            due("41: without a goal", Bench.of("cond a;").law(form), 0);
        }
        // both are looked at, b never sways; 2 (a is 0, b is 1) and 1 (a is 1, b is 0) are unlike in b, too
        FlipCover x = Bench.of("cond a;cond b;goal b and a or not b and a;");
        due("41: alone", x.law(0), 1);
        due("41: unmasked", x.law(1), 1);
        due("41: no form", x.law(3), -1);
        due("41: no form -1", x.law(-1), -1);
    }

    /** Promise 43. */
    private static void seen() {
        FlipCover x = Bench.of(AND_OR + "never b and c;");
        due("43: the first", x.seen(3, true), 0);
        due("43: one that can't be", x.seen(7, false), 1);
        due("43: no such test", x.seen(8, true), -1);
        due("43: no such test -1", x.seen(-1, true), -1);
        due("43: nothing done", x.about(8), 2);
        for (int n = 2; n < 30; n++) {
            due("43: the next", x.seen(n % 8, true), n);
        }
        due("43: there are 30", x.seen(1, true), -1);
        due("43: 30", x.about(8), 30);
        x.untell(4);
        due("43: 30, if one is untold, too", x.seen(1, true), -1);
        due("43: the log is not touched", x.about(2), 0);
        Bench.put(x, AND_OR);
        x.decision();
        due("43: nothing is seen of what is new", x.about(8), 0);
        due("43: the first again", x.seen(1, true), 0);
    }

    /** Promise 44. */
    private static void untell() {
        FlipCover x = Bench.of(AND_OR);
        due("44: none such", x.untell(0), false);
        x.seen(1, true);
        x.seen(2, true);
        due("44: none such 2", x.untell(2), false);
        due("44: none such -1", x.untell(-1), false);
        due("44: untold", x.untell(1), true);
        due("44: so already", x.untell(1), false);
        x.later(7);
        due("44: so already, later", x.untell(1), false);
        due("44: untold later", x.untell(0), true);
        due("44: still seen", x.about(8), 2);
        Bench.put(x, AND_OR);
        x.decision();
        due("44: none such of what is new", x.untell(0), false);
        x.seen(1, true);
        due("44: told anew", x.untell(0), true);
    }

    /** Promise 45. */
    private static void later() {
        FlipCover x = new FlipCover();
        due("45: at once", x.later(0), 0);
        due("45: most", x.later(1000), 1000);
        due("45: more than most", x.later(1001), -1);
        due("45: back", x.later(-1), -1);
        due("45: highest", x.later(Integer.MAX_VALUE), -1);
        due("45: lowest", x.later(Integer.MIN_VALUE), -1);
        due("45: nothing done", x.about(9), 1000);
        for (int n = 2; n < 100; n++) {
            due("45: on", x.later(1000), n * 1000);
        }
        due("45: on", x.later(999), 99999);
        due("45: above", x.later(2), -1);
        due("45: the last", x.later(1), 100000);
        due("45: behind the last", x.later(1), -1);
        due("45: none", x.later(0), 100000);
        due("45: the time", x.about(9), 100000);
    }

    /** Promise 46. */
    private static void fits() {
        FlipCover x = Bench.of(AND_OR);
        due("46: all and none", x.fits(0), 12);
        due("46: all and none, earlier", x.fits(-5), 12);
        x.seen(1, false);
        due("46: 1 came to 0", x.fits(0), 7);
        x.seen(3, true);
        due("46: 3 came to 1", x.fits(0), 3);
        x.seen(3, true);
        due("46: told twice", x.fits(0), 3);
        x.seen(3, false);
        due("46: 3 came to both", x.fits(0), 0);
        x.untell(3);
        due("46: untold", x.fits(0), 3);
        x.seen(0, true);
        due("46: nobody does so", x.fits(0), 0);
        due("46: without a goal", new FlipCover().fits(0), 1);
        x = Bench.of(AND_OR + "never not a;");
        x.seen(2, true);
        due("46: of a test that can't be", x.fits(0), 3);
    }

    /** Promises 44, 46: what counts as known at a time. */
    private static void times() {
        FlipCover x = Bench.of(AND_OR);
        x.later(5);
        x.seen(1, false);
        x.later(10);
        x.seen(3, true);
        x.later(10);
        x.untell(0);
        x.seen(2, true);
        x.untell(2);
        int[][] want = {{4, 12}, {5, 7}, {14, 7}, {15, 3}, {24, 3}, {25, 7}, {1000, 7}, {Integer.MAX_VALUE, 7},
            {Integer.MIN_VALUE, 12}, {0, 12}};
        for (int[] row : want) {
            due("46: known at " + row[0], x.fits(row[0]), row[1]);
        }
        // from where what 1 came to is untold on, those by which 3 comes to 1
        int[] last = {-1, 0, 4, 6, 8, 9, 10};
        for (int i = 0; i < 7; i++) {
            due("47: known at 25, " + i, x.culprit(i, 25), last[i]);
        }
        due("47: known at 15", x.culprit(1, 15), 6);
        due("47: known at 4", x.culprit(1, 4), 0);
        due("48: known at 4", x.ask(1, 4), 7);
        due("48: known at 24", x.ask(1, 24), 2);
    }

    /** Promise 47. */
    private static void culprit() {
        FlipCover x = Bench.of(AND_OR);
        for (int i = 0; i < 12; i++) {
            due("47: all, " + i, x.culprit(i, 0), i - 1);
        }
        due("47: none such", x.culprit(12, 0), -2);
        due("47: none such -1", x.culprit(-1, 0), -2);
        due("47: none such, lowest", x.culprit(Integer.MIN_VALUE, 0), -2);
        x.seen(1, false);
        int[] want = {-1, 1, 2, 5, 6, 7, 9, -2};
        for (int i = 0; i < want.length; i++) {
            due("47: 1 came to 0, " + i, x.culprit(i, 0), want[i]);
        }
        x.seen(3, false);
        due("47: not none", x.culprit(0, 0), 1);
        x.seen(0, true);
        due("47: none fits", x.culprit(0, 0), -2);
        due("47: without a goal", new FlipCover().culprit(0, 0), -1);
        due("47: without a goal, no second", new FlipCover().culprit(1, 0), -2);
    }

    /** Promise 48. */
    private static void ask() {
        FlipCover x = Bench.of(AND_OR);
        // of twelve 5 come to 1 by 1, 7 by 3, 7 by 5
        due("48: of all, how many are left", x.ask(1, 0), 7);
        due("48: of all, the first", x.ask(0, 0), 1);
        x.seen(1, false);
        due("48: by 3 or 5, the first", x.ask(0, 0), 3);
        due("48: 3 or 4 are left", x.ask(1, 0), 4);
        due("48: another what", x.ask(2, 0), -1);
        due("48: what -1", x.ask(-1, 0), -1);
        x.seen(0, true);
        due("48: none fits", x.ask(0, 0), -1);
        due("48: none fits, how many", x.ask(1, 0), -1);
        due("48: no test can be", Bench.of(AND_OR + "never true;").ask(0, 0), -1);
        due("48: no test can be, how many", Bench.of(AND_OR + "never true;").ask(1, 0), -1);
        x = Bench.of(AND_OR + "never b and not c;");
        x.seen(1, false);
        due("48: 3 can't be", x.ask(0, 0), 5);
        due("48: without a goal", new FlipCover().ask(0, 0), 0);
        due("48: without a goal, how many", new FlipCover().ask(1, 0), 1);
        x = Bench.of("cond a;goal a;never not a;");
        x.seen(1, true);
        // none and told 1 come to 1 by 1
        due("48: nothing is gained", x.ask(1, 0), 2);
        due("48: nothing is gained, by", x.ask(0, 0), 1);
    }
}
