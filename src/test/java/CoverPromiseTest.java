/** Promises 8 to 10 and 16 to 29: pairs, what is covered, the fewest and cheapest tests, how conditions hang together. */
public final class CoverPromiseTest {
    private static final Bench bench = new Bench();
    // of a, b, c: true in tests 3, 5, 7; a sways 2 3 4 5 6 7, b 1 3, c 1 5
    private static final String AND_OR = "cond a;cond b;cond c;goal a and (b or c);";

    public static void main(String[] args) {
        pair();
        asFar();
        partners();
        pairs();
        possible();
        truths();
        covers();
        coverable();
        covered();
        percent();
        least();
        cheapest();
        more();
        next();
        needless();
        sway();
        couple();
        fixed();
        bench.end("CoverPromiseTest");
    }

    private static void due(String call, long got, long want) {
        bench.due(call, got, want);
    }

    /** Puts tests into the log. */
    private static FlipCover ran(String text, int... tests) {
        FlipCover x = Bench.of(text);
        for (int test : tests) {
            x.run(test);
        }
        return x;
    }

    /** Promise 8. */
    private static void pair() {
        FlipCover x = Bench.of(AND_OR);
        due("8: alone", x.pair(0, 2, 3, 0), 1);
        due("8: alone, the other way", x.pair(0, 3, 2, 0), 1);
        due("8: with itself", x.pair(0, 3, 3, 0), 0);
        due("8: not flipped", x.pair(0, 0, 1, 0), 0);
        due("8: another condition differs", x.pair(0, 2, 5, 0), 0);
        due("8: does not differ in it", x.pair(1, 2, 3, 0), 0);
        due("8: unmasked", x.pair(0, 2, 5, 1), 1);
        due("8: one is not swayed", x.pair(1, 1, 7, 1), 0);
        due("8: b differs, looked at in one alone", x.pair(1, 1, 7, 2), 1);
        due("8: c was looked at in both, and differs", x.pair(1, 5, 3, 2), 0);
        for (int form = 0; form < 3; form++) {
            due("8: no condition 3", x.pair(3, 2, 3, form), -1);
            due("8: no condition -1", x.pair(-1, 2, 3, form), -1);
            due("8: no test 8", x.pair(0, 8, 3, form), -1);
            due("8: no other 8", x.pair(0, 3, 8, form), -1);
            due("8: no test -1", x.pair(0, -1, 3, form), -1);
            due("8: no other -1", x.pair(0, 3, -1, form), -1);
        }
        due("8: no form 3", x.pair(0, 2, 3, 3), -1);
        due("8: no form -1", x.pair(0, 2, 3, -1), -1);
        x = Bench.of(AND_OR + "never not a and b;");
        due("8: one can't be", x.pair(0, 2, 3, 0), 0);
        due("8: can be", x.pair(0, 4, 5, 0), 1);
        due("8: swayed by what can't be", x.pair(0, 4, 3, 1), 1);
    }

    /** Promise 8, form 2: a condition may be looked at at one look in the one, at another one in the other. */
    private static void asFar() {
        // test 0 looks at a, c (look 3 is of a again); test 1 at a, b
        FlipCover x = Bench.of("cond a;cond b;cond c;goal a and b or not a and c;");
        due("8: at unlike looks", x.pairs(2, 2), 4);
        // c false in 0, true in 4: both look at a and c, never at b
        due("8: b unlike, not looked at", x.pair(2, 0, 6, 2), 1);
        due("8: b unlike, alone", x.pair(2, 0, 6, 0), 0);
        due("8: c looked at in neither", x.pair(2, 1, 7, 2), 0);
        // d is looked at by test 1 at look 1, by test 2 at look 2, and is unlike
        x = Bench.of("cond a;cond d;goal a and d or d;");
        due("8: d at unlike looks", x.pair(0, 1, 2, 2), 0);
        // b flips from 0 to 3, both look at a, unlike
        x = Bench.of("cond a;cond b;goal a and b;");
        due("8: a unlike, told ahead", x.pair(1, 0, 3, 2), 0);
        due("8: a not looked at again", x.pair(0, 0, 3, 2), 1);
        x = Bench.of("cond a;cond b;goal (a or true) and b;");
        due("8: a looked at in both, unlike", x.pair(1, 0, 3, 2), 0);
        due("8: a looked at in both, alike", x.pair(1, 1, 3, 2), 1);
    }

    /** Promise 9. */
    private static void partners() {
        FlipCover x = Bench.of(AND_OR);
        due("9: alone", x.partners(0, 3, 0), 4);
        due("9: unmasked", x.partners(0, 3, 1), 84);
        due("9: as far", x.partners(0, 3, 2), 85);
        due("9: none", x.partners(0, 1, 2), 0);
        due("9: no condition", x.partners(3, 3, 0), -1);
        due("9: no condition -1", x.partners(-1, 3, 0), -1);
        due("9: no test", x.partners(0, 8, 0), -1);
        due("9: no test -1", x.partners(0, -1, 0), -1);
        due("9: no form", x.partners(0, 3, 3), -1);
        due("9: no form -1", x.partners(0, 3, -1), -1);
        x = Bench.of(AND_OR + "never b and not a;");
        due("9: without what can't be", x.partners(0, 3, 1), 16);
        due("9: of what can't be", x.partners(0, 2, 1), 0);
    }

    /** Promise 10. */
    private static void pairs() {
        FlipCover x = Bench.of(AND_OR);
        due("10: a alone", x.pairs(0, 0), 3);
        due("10: a unmasked", x.pairs(0, 1), 9);
        due("10: a as far", x.pairs(0, 2), 12);
        due("10: b alone", x.pairs(1, 0), 1);
        due("10: no condition", x.pairs(3, 0), -1);
        due("10: no condition -1", x.pairs(-1, 0), -1);
        due("10: no form", x.pairs(0, 3), -1);
        due("10: no form -1", x.pairs(0, -1), -1);
        due("10: 0 comes to 1", Bench.of("cond a;goal not a;").pairs(0, 1), 1);
        due("10: nothing flips", Bench.of("cond a;goal true;").pairs(0, 0), 0);
        due("10: not told in the goal", Bench.of("cond a;cond b;goal a;").pairs(1, 2), 0);
    }

    /** Promise 16. */
    private static void possible() {
        due("16: none told", Bench.of("cond a;cond b;").possible(), 15);
        due("16: one told", Bench.of("cond a;cond b;never a and b;").possible(), 7);
        due("16: two told", Bench.of("cond a;cond b;never a and b;never not a and not b;").possible(), 6);
        due("16: nothing can be", Bench.of("cond a;never true;").possible(), 0);
        due("16: never false", Bench.of("cond a;never false;").possible(), 3);
        due("16: told ahead of a condition", Bench.of("cond a;never a;cond b;").possible(), 5);
        due("16: sixteen", Bench.of("cond a;cond b;cond c;cond d;never d and c and b and a;").possible(), 0x7FFF);
        due("16: without conditions", Bench.of("never true;").possible(), 0);
    }

    /** Promise 17. */
    private static void truths() {
        due("17: without a goal", Bench.of("cond a;").truths(), 0);
        due("17: as it comes", Bench.of(AND_OR).truths(), 168);
        due("17: what can't be, too", Bench.of(AND_OR + "never a;").truths(), 168);
        due("17: true", Bench.of("cond a;cond b;cond c;cond d;goal true;").truths(), 0xFFFF);
    }

    /** Promise 18. */
    private static void covers() {
        FlipCover x = Bench.of(AND_OR);
        due("18: all", x.covers(46, 0), 7);
        due("18: one", x.covers(44, 0), 1);
        due("18: none", x.covers(0, 0), 0);
        due("18: 0 comes to 1", Bench.of("cond a;goal not a;").covers(3, 0), 1);
        due("18: every test", x.covers(255, 1), 7);
        due("18: as far", x.covers(1 << 1 | 1 << 7, 2), 2);
        due("18: not such tests", x.covers(256, 0), -1);
        due("18: below 0", x.covers(-1, 0), -1);
        due("18: least", x.covers(Integer.MIN_VALUE, 0), -1);
        due("18: no form", x.covers(0, 3), -1);
        due("18: no form -1", x.covers(0, -1), -1);
        x = Bench.of(AND_OR + "never a and b and not c;");
        due("18: those that can't be do not count", x.covers(46, 0), 4);
        due("18: sixteen", Bench.of("cond a;cond b;cond c;cond d;goal d;").covers(0xFFFF, 0), 8);
        due("18: more than sixteen", Bench.of("cond a;cond b;cond c;cond d;goal d;").covers(0x10000, 0), -1);
    }

    /** Promise 19. */
    private static void coverable() {
        FlipCover x = Bench.of("cond x;cond y;goal x or not y and true;never x and y;never not x and not y;");
        due("19: alone", x.coverable(0), 0);
        due("19: unmasked", x.coverable(1), 0);
        due("19: as far", x.coverable(2), 1);
        due("19: no form", x.coverable(3), -1);
        due("19: no form -1", x.coverable(-1), -1);
        due("19: all", Bench.of(AND_OR).coverable(0), 7);
    }

    /** Promise 20. */
    private static void covered() {
        FlipCover x = ran(AND_OR, 3, 4);
        due("20: nothing alone", x.covered(0), 0);
        due("20: a unmasked", x.covered(1), 1);
        x.run(1);
        due("20: b alone", x.covered(0), 2);
        x.undo();
        due("20: taken back", x.covered(0), 0);
        due("20: no form", x.covered(3), -1);
        due("20: no form -1", x.covered(-1), -1);
    }

    /** Promise 21. */
    private static void percent() {
        FlipCover x = ran(AND_OR, 1, 3);
        due("21: one of three, cut", x.percent(0), 33);
        x.run(5);
        due("21: two of three, cut", x.percent(0), 66);
        x.run(2);
        due("21: all", x.percent(0), 100);
        due("21: no form", x.percent(3), -1);
        due("21: no form -1", x.percent(-1), -1);
        due("21: none is covered by all", Bench.of("cond a;goal true;").percent(0), 100);
        due("21: of those alone that all cover", ran("cond a;cond b;goal a;", 0, 1).percent(0), 100);
        due("21: empty log", Bench.of(AND_OR).percent(2), 0);
    }

    /** Promise 22. */
    private static void least() {
        FlipCover x = Bench.of(AND_OR);
        due("22: how many", x.least(0, 0), 4);
        due("22: which, the least as bits", x.least(0, 1), 46);
        due("22: another what", x.least(0, 2), -1);
        due("22: what -1", x.least(0, -1), -1);
        due("22: no form", x.least(3, 0), -1);
        due("22: no form -1", x.least(-1, 1), -1);
        x = Bench.of("cond a;cond b;cond c;goal a and b or not a and c;");
        due("22: as far", x.least(2, 1), 27);
        x = Bench.of("cond a;goal true;");
        due("22: nothing to cover", x.least(1, 0) + x.least(1, 1), 0);
        x = Bench.of("cond a;cond b;cond c;cond d;goal a and b and c and d;");
        due("22: four and one", x.least(0, 0), 5);
        due("22: all but one each", x.least(0, 1), 1 << 15 | 1 << 14 | 1 << 13 | 1 << 11 | 1 << 7);
        // pairs 0 1 .. 14 15 are alike: the fewest are two, the least are 0 and 1
        due("22: of like ones the least", Bench.of("cond a;cond b;cond c;cond d;goal a;").least(0, 1), 3);
        due("22: what can't be is not in it", Bench.of("cond a;cond b;goal a;never not b;").least(0, 1), 12);
        // the log has nothing to do with it
        due("22: whatever the log", ran(AND_OR, 6, 7).least(0, 1), 46);
    }

    /** Promise 23. */
    private static void cheapest() {
        FlipCover x = Bench.of("cond a;cond b;goal a;costs 9 - number * 2;");
        due("23: cost", x.cheapest(0, 0), 5 + 3);
        due("23: which", x.cheapest(0, 1), 12);
        due("23: least is another", x.least(0, 1), 3);
        due("23: another what", x.cheapest(0, 2), -1);
        due("23: what -1", x.cheapest(0, -1), -1);
        due("23: no form", x.cheapest(3, 0), -1);
        due("23: no form -1", x.cheapest(-1, 0), -1);
        // 2 costs 99: b by 1 and 3, a by 4 and 5, c by 1 and 5 go round it
        x = Bench.of(AND_OR + "costs 1 + (number = 2) * 90 + (number = 6) * 50;");
        due("23: round what is dear", x.cheapest(0, 1), 1 << 1 | 1 << 3 | 1 << 4 | 1 << 5);
        due("23: round what is dear, cost", x.cheapest(0, 0), 4);
        x = Bench.of(AND_OR + "costs 0;");
        due("23: of no cost the fewest", x.cheapest(0, 1), 46);
        due("23: of no cost", x.cheapest(0, 0), 0);
        // by a pair of two tests for 20 each, or by three tests that cost less
        x = Bench.of("cond a;cond b;goal a and b;costs (number = 1 or number = 2) * 40 + 1;");
        due("23: all are needed", x.cheapest(0, 0), 83);
        due("23: 0 costs, too", Bench.of("cond a;goal a;costs 5;").cheapest(0, 0), 10);
        due("23: by unlike forms", Bench.of("cond a;cond b;goal a;costs 9 - number * 2;").cheapest(2, 1), 12);
        // 1 3 5 with 2, or with 4, or with 6 and 7, cost 5
        x = Bench.of(AND_OR + "costs 1 + (number = 2 or number = 4);");
        due("23: of like cost", x.cheapest(0, 0), 5);
        due("23: of like cost the fewest", x.cheapest(0, 1), 46);
        // 6 and 7 are less than one of them
        x = Bench.of(AND_OR + "costs 1 + 2 * (number = 2 or number = 4);");
        due("23: more that cost less", x.cheapest(0, 0), 5);
        due("23: more that cost less, which", x.cheapest(0, 1), 1 << 1 | 1 << 3 | 1 << 5 | 1 << 6 | 1 << 7);
        due("23: nothing to cover", Bench.of("cond a;goal true;costs 5;").cheapest(0, 0), 0);
        due("23: untold, 1 each", Bench.of(AND_OR).cheapest(0, 0), 4);
        due("23: untold, as least", Bench.of(AND_OR).cheapest(0, 1), 46);
    }

    /** Promise 24. */
    private static void more() {
        FlipCover x = ran(AND_OR);
        due("24: empty log, as least", x.more(0, 1), 46);
        x.run(6);
        due("24: 6 may serve", x.more(0, 0), 4);
        x.run(7);
        due("24: a is covered", x.more(0, 0), 3);
        due("24: b and c are not", x.more(0, 1), 1 << 1 | 1 << 3 | 1 << 5);
        x.run(1);
        x.run(3);
        x.run(5);
        due("24: nothing", x.more(0, 0), 0);
        due("24: nothing, which", x.more(0, 1), 0);
        x.drop(5);
        due("24: one again", x.more(0, 1), 32);
        x.undo();
        due("24: undone", x.more(0, 1), 0);
        while (x.undo()) {
            due("24: as the log is then", x.covers(x.about(2) | x.more(0, 1), 0), 7);
        }
        due("24: empty log again", x.more(0, 1), 46);
        due("24: another what", x.more(0, 2), -1);
        due("24: what -1", x.more(0, -1), -1);
        due("24: no form", x.more(3, 0), -1);
        due("24: no form -1", x.more(-1, 0), -1);
    }

    /** Promise 25. */
    private static void next() {
        FlipCover x = ran(AND_OR);
        due("25: nothing gains, the first", x.next(0), 0);
        x.run(3);
        due("25: 1 gains b, 2 gains a; the first", x.next(0), 1);
        x.run(1);
        due("25: a by 2, c by 5; the first", x.next(0), 2);
        x.run(2);
        due("25: c by 5", x.next(0), 5);
        due("25: unmasked, 5 as well", x.next(1), 5);
        due("25: no form", x.next(3), -1);
        due("25: no form -1", x.next(-1), -1);
        x = ran("cond a;goal a;", 0, 1);
        due("25: all are in the log", x.next(0), -1);
        x.drop(0);
        due("25: one is not", x.next(0), 0);
        due("25: what can be", Bench.of("cond a;goal a;never not a;").next(0), 1);
        due("25: nothing can be", Bench.of("cond a;never true;").next(0), -1);
    }

    /** Promise 26. */
    private static void needless() {
        FlipCover x = ran(AND_OR, 0, 1, 2, 3, 4, 5);
        due("26: 0 and, each alone, 2, 4", x.needless(0), 1 | 1 << 2 | 1 << 4);
        due("26: no form", x.needless(3), -1);
        due("26: no form -1", x.needless(-1), -1);
        due("26: empty log", Bench.of(AND_OR).needless(0), 0);
        due("26: covers nothing", ran(AND_OR, 6).needless(1), 64);
        due("26: both are needed", ran(AND_OR, 6, 7).needless(0), 0);
    }

    /** Promise 27. */
    private static void sway() {
        FlipCover x = Bench.of(AND_OR);
        due("27: a", x.sway(0), 6);
        due("27: b", x.sway(1), 2);
        due("27: c", x.sway(2), 2);
        due("27: none such", x.sway(3), -1);
        due("27: none such -1", x.sway(-1), -1);
        due("27: what can't be, too", Bench.of(AND_OR + "never true;").sway(0), 6);
        due("27: not in the goal", Bench.of("cond a;").sway(0), 0);
        due("27: all", Bench.of("cond a;cond b;cond c;cond d;goal d;").sway(3), 16);
    }

    /** Promise 28. */
    private static void couple() {
        FlipCover x = Bench.of("cond a;cond b;cond c;never a and not b;never not a and b;never c and a;never not c and not a;");
        due("28: alike", x.couple(0, 1), 1);
        due("28: unlike", x.couple(0, 2), 2);
        due("28: unlike, the other way", x.couple(2, 1), 2);
        due("28: itself", x.couple(2, 2), 1);
        due("28: no other", x.couple(0, 3), -1);
        due("28: no condition", x.couple(3, 0), -1);
        due("28: no condition -1", x.couple(-1, 0), -1);
        due("28: no other -1", x.couple(0, -1), -1);
        due("28: not so", Bench.of("cond a;cond b;never a and b;").couple(0, 1), 0);
        due("28: nothing can be", Bench.of("cond a;cond b;never true;").couple(0, 1), 3);
        due("28: nothing can be, itself", Bench.of("cond a;cond b;never true;").couple(1, 1), 3);
    }

    /** Promise 29. */
    private static void fixed() {
        FlipCover x = Bench.of("cond a;cond b;cond c;never a;never not b;");
        due("29: 0", x.fixed(0), 0);
        due("29: 1", x.fixed(1), 1);
        due("29: not the same", x.fixed(2), -1);
        due("29: none such", x.fixed(3), -1);
        due("29: none such -1", x.fixed(-1), -1);
        due("29: nothing can be", Bench.of("cond a;never true;").fixed(0), -1);
    }
}
