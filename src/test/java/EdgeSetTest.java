import java.util.Arrays;

/** Edges of part 3 of the Terms and of promises 8 to 10, 16 to 30, 32 to 41: pairs, sets of tests, ways, faulty goals. */
public final class EdgeSetTest {
    private static final Edge edge = new Edge();
    // true in tests 3, 5, 7
    private static final String AND_OR = "cond a;cond b;cond c;goal a and (b or c);";
    private static final String TEN = "cond a;goal a and a and a and a and a or a and a and a and a and a;";

    public static void main(String[] args) {
        conditionsThereAre();
        formsThereAre();
        whatsThereAre();
        setsThereAre();
        swaysWhatCanNotBe();
        pairsOfForms();
        pairsThatCanBe();
        asFar();
        least();
        leastOfAll();
        fewestOfEach();
        cheapest();
        cheapestOfLikeOnes();
        more();
        percent();
        next();
        needless();
        couple();
        fixed();
        dead();
        ways();
        mean();
        faultiesThereAre();
        turned();
        toldTwoByTwo();
        shown();
        alive();
        killers();
        exchange();
        law();
        edge.end("EdgeSetTest");
    }

    private static void due(String call, long got, long want) {
        edge.due(call, got, want);
    }

    private static void due(String call, boolean got, boolean want) {
        edge.due(call, got, want);
    }

    private static FlipCover ran(String text, int... tests) {
        FlipCover x = Bench.of(text);
        for (int test : tests) {
            x.run(test);
        }
        return x;
    }

    private static int set(int... tests) {
        int set = 0;
        for (int test : tests) {
            set |= 1 << test;
        }
        return set;
    }

    private static void conditionsThereAre() {
        for (int n = 0; n <= 4; n++) {
            FlipCover x = Bench.of(Edge.conds(n) + "goal true" + (n > 0 ? " and a" : "") + ";");
            for (int cond = 0; cond < n; cond++) {
                edge.of("8 to 10, 27 to 29: the last CONDITION there is");
                due("sway", x.sway(cond), cond == 0 ? 1 << n : 0);
                due("pairs", x.pairs(cond, 0), cond == 0 ? 1 << n - 1 : 0);
                due("partners", x.partners(cond, 0, 0), cond == 0 ? 2 : 0);
                due("pair", x.pair(cond, 0, 1, 0), cond == 0 ? 1 : 0);
                due("couple", x.couple(cond, n - 1), cond == n - 1 ? 1 : 0);
                due("fixed", x.fixed(cond), -1);
            }
            edge.of("8 to 10, 27 to 29: NONE if there is no such CONDITION");
            refusedCondition(x, n);
            refusedCondition(x, -1);
            refusedCondition(x, 4);
            refusedCondition(x, 32);
            for (int far : Edge.FAR) {
                refusedCondition(x, far);
            }
        }
    }

    private static void refusedCondition(FlipCover x, int cond) {
        due("sway " + cond, x.sway(cond), -1);
        due("fixed " + cond, x.fixed(cond), -1);
        due("couple " + cond, x.couple(cond, 0), -1);
        due("couple, other " + cond, x.couple(0, cond), -1);
        due("couple, both " + cond, x.couple(cond, cond), -1);
        for (int form = 0; form < 3; form++) {
            due("pairs " + cond, x.pairs(cond, form), -1);
            due("partners " + cond, x.partners(cond, 0, form), -1);
            due("pair " + cond, x.pair(cond, 0, 1, form), -1);
        }
    }

    private static void formsThereAre() {
        edge.of("3: by a FORM 0, 1, 2");
        FlipCover x = ran(AND_OR, 1, 3);
        int[] pairs = {3, 9, 12};
        int[] partners = {set(2), set(2, 4, 6), set(0, 2, 4, 6)};
        for (int form = 0; form < 3; form++) {
            due("pairs " + form, x.pairs(0, form), pairs[form]);
            due("partners " + form, x.partners(0, 3, form), partners[form]);
            due("pair " + form, x.pair(0, 3, 2, form), 1);
            due("covers " + form, x.covers(255, form), 7);
            due("coverable " + form, x.coverable(form), 7);
            due("covered " + form, x.covered(form), 2);
            due("percent " + form, x.percent(form), 33);
            due("least " + form, x.least(form, 0), 4);
            due("cheapest " + form, x.cheapest(form, 0), 4);
            due("more " + form, x.more(form, 0), 2);
            due("next " + form, x.next(form) >= 0, true);
            due("needless " + form, x.needless(form), 0);
            due("law " + form, x.law(form), 3);
        }
        edge.of("8 to 10, 18 to 26, 41: NONE if there is no such FORM");
        refusedForm(x, 3);
        refusedForm(x, -1);
        for (int far : Edge.FAR) {
            refusedForm(x, far);
        }
    }

    private static void refusedForm(FlipCover x, int form) {
        due("pairs " + form, x.pairs(0, form), -1);
        due("partners " + form, x.partners(0, 3, form), -1);
        due("pair " + form, x.pair(0, 3, 2, form), -1);
        due("covers " + form, x.covers(0, form), -1);
        due("coverable " + form, x.coverable(form), -1);
        due("covered " + form, x.covered(form), -1);
        due("percent " + form, x.percent(form), -1);
        due("next " + form, x.next(form), -1);
        due("needless " + form, x.needless(form), -1);
        due("law " + form, x.law(form), -1);
        for (int what = 0; what < 2; what++) {
            due("least " + form, x.least(form, what), -1);
            due("cheapest " + form, x.cheapest(form, what), -1);
            due("more " + form, x.more(form, what), -1);
        }
    }

    private static void whatsThereAre() {
        edge.of("22 to 24, 33, 35, 38, 39: NONE for another what, another part");
        FlipCover x = Bench.of(AND_OR);
        for (int what = 0; what < 2; what++) {
            due("least " + what, x.least(0, what), what == 0 ? 4 : 46);
            due("cheapest " + what, x.cheapest(0, what), what == 0 ? 4 : 46);
            due("more " + what, x.more(0, what), what == 0 ? 4 : 46);
            due("mean " + what, x.mean(what), what == 0 ? 7 : 4);
            due("alive " + what, x.alive(what), what == 0 ? 11 : 0);
            due("killers " + what, x.killers(what), what == 0 ? 4 : 46);
            due("faulty " + what, x.faulty(3, what), 1);
        }
        refusedWhat(x, 2);
        refusedWhat(x, -1);
        for (int far : Edge.FAR) {
            refusedWhat(x, far);
        }
    }

    private static void refusedWhat(FlipCover x, int what) {
        for (int form = 0; form < 3; form++) {
            due("least " + what, x.least(form, what), -1);
            due("cheapest " + what, x.cheapest(form, what), -1);
            due("more " + what, x.more(form, what), -1);
        }
        due("mean " + what, x.mean(what), -1);
        due("alive " + what, x.alive(what), -1);
        due("killers " + what, x.killers(what), -1);
        due("faulty " + what, x.faulty(3, what), -1);
    }

    private static void setsThereAre() {
        for (int n = 0; n <= 4; n++) {
            edge.of("18: as bits; NONE if there are not such TESTS");
            int all = (1 << (1 << n)) - 1;
            FlipCover x = Bench.of(Edge.conds(n) + (n > 0 ? "goal a;" : "goal true;"));
            for (int form = 0; form < 3; form++) {
                due("all of " + n, x.covers(all, form), n > 0 ? 1 : 0);
                due("none of " + n, x.covers(0, form), 0);
                due("one more than " + n, x.covers(all + 1, form), -1);
                due("all and one more than " + n, x.covers(all * 2 + 1, form), -1);
                due("-1 of " + n, x.covers(-1, form), -1);
                due("the highest bit of " + n, x.covers(Integer.MIN_VALUE, form), -1);
                due("the highest bit and all of " + n, x.covers(Integer.MIN_VALUE | all, form), -1);
                due("the next bit of " + n, x.covers(1 << 30, form), -1);
            }
        }
        edge.of("18: those that can't be do not count");
        FlipCover x = Bench.of(AND_OR + "never a and b and c;");
        due("one of a pair can't be", x.covers(set(6, 7), 0), 0);
        due("it is no fault", x.covers(255, 0), 7);
        due("another pair", x.covers(set(3, 2, 7), 0), 1);
        x = Bench.of(AND_OR + "never true;");
        due("none can be", x.covers(255, 0), 0);
        due("none is there", x.covers(256, 0), -1);
    }

    private static void swaysWhatCanNotBe() {
        edge.of("3: SWAYS: (whether that CAN BE or not)");
        FlipCover x = Bench.of("cond a;cond b;goal a and b;never a and b;");
        due("2 turned over to 3", x.test(2, 5), 1);
        due("1 turned over to 3", x.test(1, 5), 2);
        due("3, itself", x.test(3, 5), 3);
        due("0, by none", x.test(0, 5), 0);
        edge.of("27: TESTS (that CAN BE or not)");
        due("a", x.sway(0), 2);
        due("b", x.sway(1), 2);
        due("nothing can be", Bench.of("cond a;goal a;never true;").sway(0), 2);
        edge.of("17: TESTS (that CAN BE or not) that come to 1");
        due("one that can't be", x.truths(), 8);
        due("nothing can be", Bench.of("cond a;goal true;never true;").truths(), 3);
        edge.of("3: 1 UNMASKED: it SWAYS both (whether that CAN BE or not)");
        x = Bench.of("cond a;cond b;goal a and b or not a and not b;never a and not b;never not a and not b;");
        // 2 and 3 alone can be
        due("alone", x.pair(0, 2, 3, 0), 1);
        x = Bench.of("cond a;cond b;cond c;goal a and (b or c);never not a and b;");
        // 3 swayed by 2, that can't be, with 4
        due("3 and 4", x.pair(0, 3, 4, 1), 1);
        due("3 and 2", x.pair(0, 3, 2, 1), 0);
    }

    private static void pairsOfForms() {
        edge.of("8: 1, 0; a TEST with itself, one that does not differ in it, one that comes to the same");
        FlipCover x = Bench.of(Edge.conds(4) + "goal a and b and c and d;");
        for (int form = 0; form < 3; form++) {
            for (int t = 0; t < 16; t++) {
                for (int cond = 0; cond < 4; cond++) {
                    due("itself", x.pair(cond, t, t, form), 0);
                    due("of the one, of the other", x.pair(cond, t, 15, form), x.pair(cond, 15, t, form));
                    due("both come to 0", t < 15 ? x.pair(cond, t, t ^ 1 << cond, form) : 0,
                        t == (15 ^ 1 << cond) ? 1 : 0);
                    due("by bits", x.partners(cond, t, form) >> 15 & 1, x.pair(cond, t, 15, form));
                }
            }
            due("none but 15", x.partners(3, 7, form), 0x8000);
        }
        edge.of("10: (of two TESTS once)");
        due("one", x.pairs(0, 0), 1);
        due("eight", Bench.of(Edge.conds(4) + "goal d;").pairs(3, 0), 8);
        due("each with each", Bench.of(Edge.conds(4) + "goal d;").pairs(3, 1), 64);
        due("each with each, as far", Bench.of(Edge.conds(4) + "goal d;").pairs(3, 2), 64);
        due("none", Bench.of(Edge.conds(4) + "goal d;").pairs(2, 2), 0);
    }

    private static void pairsThatCanBe() {
        edge.of("3: of two TESTS that CAN BE");
        for (int out = 0; out < 4; out++) {
            String never = "never " + (out % 2 == 1 ? "a" : "not a") + " and " + (out / 2 == 1 ? "b" : "not b") + ";";
            FlipCover x = Bench.of("cond a;cond b;goal a;" + never);
            for (int form = 0; form < 3; form++) {
                for (int t = 0; t < 4; t++) {
                    for (int other = 0; other < 4; other++) {
                        boolean differ = (t & 1) != (other & 1) && t != out && other != out;
                        boolean alone = (t ^ other) == 1;
                        due(out + " can't be: " + t + " " + other, x.pair(0, t, other, form),
                            differ && (form > 0 || alone) ? 1 : 0);
                    }
                    due(out + " has none", x.partners(0, out, form), 0);
                }
                due(out + ": how many", x.pairs(0, form), form == 0 ? 1 : 2);
            }
        }
    }

    private static void asFar() {
        edge.of("3: 2 AS FAR: looked at in both (at some LOOK of it in the one, at some in the other one)");
        // 1 looks at b at look 1, 2 at look 4, 3 at look 1
        FlipCover x = Bench.of("cond a;cond b;cond c;goal a and b and c or not a and b;");
        due("b at unlike looks, unlike: not of a", x.pair(0, 1, 2, 2), 0);
        due("b at unlike looks, alike: of a", x.pair(0, 3, 2, 2), 1);
        due("b unlike, unmasked", x.pair(0, 1, 2, 1), 0);
        x = Bench.of("cond a;cond b;goal a and b or b;");
        due("a is looked at in both, unlike: not of b", x.pair(1, 1, 2, 2), 0);
        due("a is unlike, the other way: not of b", x.pair(1, 0, 3, 2), 0);
        due("a is alike: of b", x.pair(1, 1, 3, 2), 1);
        due("a is alike, 0: of b", x.pair(1, 0, 2, 2), 1);
        due("by bits", x.partners(1, 3, 2), 2);
        due("two", x.pairs(1, 2), 2);
        x = Bench.of("cond a;cond b;cond c;goal a and b or not a and c;");
        due("b looked at in one alone", x.pair(0, 0, 3, 2), 1);
        due("c looked at in one alone", x.pair(0, 4, 1, 2), 1);
        due("c not looked at in both", x.pair(2, 4, 1, 2), 0);
        due("c looked at in one of them", x.pair(2, 4, 3, 2), 0);
        due("c in both", x.pair(2, 4, 0, 2), 1);
        due("c in both, b whatever", x.pair(2, 6, 0, 2), 1);
        x = Bench.of("cond a;cond b;goal a or b;");
        due("b is not looked at by 1", x.pair(1, 0, 3, 2), 0);
        due("a is, b in one alone", x.pair(0, 0, 3, 2), 1);
    }

    private static void least() {
        edge.of("22: LEAST: nothing to be covered, the fewest, the most");
        for (int form = 0; form < 3; form++) {
            for (String text : new String[] {"", "cond a;", "cond a;goal true;", "cond a;goal a;never a;", "cond a;goal a;"
                + "never true;", "goal true and false;"}) {
                FlipCover x = Bench.of(text);
                due("<" + text + "> how many", x.least(form, 0), 0);
                due("<" + text + "> which", x.least(form, 1), 0);
                due("<" + text + "> cost", x.cheapest(form, 0), 0);
                due("<" + text + "> cheapest", x.cheapest(form, 1), 0);
                due("<" + text + "> more", x.more(form, 0), 0);
                due("<" + text + "> more, which", x.more(form, 1), 0);
            }
            FlipCover x = Bench.of("cond a;goal a;");
            due("one condition", x.least(form, 1), 3);
            x = Bench.of(Edge.conds(4) + "goal a and b and c and d;");
            due("four conditions", x.least(form, 0), 5);
        }
        edge.of("22: of like ones the least as bits of TESTS");
        for (int cond = 0; cond < 4; cond++) {
            FlipCover x = Bench.of(Edge.conds(4) + "goal " + Edge.NAMES[cond] + ";");
            for (int form = 0; form < 3; form++) {
                due("0 and another, " + cond, x.least(form, 1), 1 | 1 << (1 << cond));
            }
            x = Bench.of(Edge.conds(4) + "goal " + Edge.NAMES[cond] + ";never not a and not b and not c and not d;");
            int first = cond == 0 ? 2 : 1;
            due("0 can't be, " + cond, x.least(0, 1), 1 << first | 1 << (first | 1 << cond));
            due("0 can't be, by any two, " + cond, x.least(1, 1), cond == 0 ? 6 : cond == 1 ? 6 : 2 | 1 << (1 << cond));
        }
        // c by 0 and 12 or by 3 and 7: the first is ahead as a row, the other one is less as bits
        FlipCover x = Bench.of(Edge.conds(4) + "goal c and not (a and b) or a and b and not c;never a and not b;"
            + "never b and not a;never d and (a or not c);never c and not a and not d;");
        due("what can be", x.possible(), set(0, 3, 7, 12));
        due("c alone can be covered", x.coverable(1), 4);
        due("by the highest", x.least(1, 1), set(3, 7));
        due("by the highest, cheapest", x.cheapest(1, 1), set(3, 7));
        due("by the highest, more", x.more(1, 1), set(3, 7));
    }

    private static int plainLeast(FlipCover x, int form, int wanted, int had) {
        int best = -1;
        int can = x.possible();
        for (int set = 0; set <= can; set++) {
            boolean fewer = best < 0 || Integer.bitCount(set) < Integer.bitCount(best);
            if ((set & ~can) == 0 && fewer && x.covers(set | had, form) == wanted) {
                best = set;
            }
        }
        return best;
    }

    private static void leastOfAll() {
        edge.of("22, 24: the set of the fewest TESTS, of all sets there are");
        String[] goals = {"a and (b or c)", "a or b and not c", "a and b or a and c or b and c", "(a or b) and (b or c)",
            "not a and not b or c and a", "a and not b or not a and b", "b and true or false", "a and b and c"};
        String[] nevers = {"", "never a and b;", "never not a and c;", "never a and not b;never not a and b;"};
        for (String goal : goals) {
            for (String never : nevers) {
                FlipCover x = Bench.of(Edge.conds(3) + "goal " + goal + ";" + never);
                for (int form = 0; form < 3; form++) {
                    int all = x.coverable(form);
                    int want = plainLeast(x, form, all, 0);
                    due(goal + " " + never + " least " + form, x.least(form, 1), want);
                    due(goal + " " + never + " how many " + form, x.least(form, 0), Integer.bitCount(want));
                    due(goal + " " + never + " cheapest " + form, x.cheapest(form, 1), want);
                    x.run(1);
                    x.run(6);
                    want = plainLeast(x, form, all, x.about(2));
                    due(goal + " " + never + " more " + form, x.more(form, 1), want);
                    due(goal + " " + never + " how many more " + form, x.more(form, 0), Integer.bitCount(want));
                    x.undo();
                    x.undo();
                }
            }
        }
    }

    /** Of sets of tests that can be the best one by weights, then the least as bits, to cover all with those had. */
    private static int lightest(FlipCover x, int form, int[] weights, int had) {
        int conditions = x.about(0);
        int[][] mates = new int[conditions][1 << conditions];
        for (int cond = 0; cond < conditions; cond++) {
            for (int t = 0; t < 1 << conditions; t++) {
                mates[cond][t] = x.partners(cond, t, form);
            }
        }
        int can = x.possible();
        int wanted = coveredBy(mates, can);
        int best = -1;
        int least = Integer.MAX_VALUE;
        for (int set = 0; set <= can; set++) {
            int weight = 0;
            for (int t = 0; t < 1 << conditions; t++) {
                weight += (set >> t & 1) * weights[t];
            }
            if ((set & ~can) == 0 && weight < least && coveredBy(mates, set | had) == wanted) {
                best = set;
                least = weight;
            }
        }
        return best;
    }

    private static int coveredBy(int[][] mates, int set) {
        int covered = 0;
        for (int cond = 0; cond < mates.length; cond++) {
            for (int t = 0; t < mates[cond].length; t++) {
                covered |= (set >> t & 1) == 1 && (set & mates[cond][t]) != 0 ? 1 << cond : 0;
            }
        }
        return covered;
    }

    private static void fewestOfEach() {
        edge.of("22 to 24: each TEST counts as one, or by its COST");
        int[] ones = new int[16];
        Arrays.fill(ones, 1);
        String[] shapes = {"? and (? or ?)", "? or ? and ?", "(? or ?) and ? or ?", "? and ? or ? and ?"};
        String[] nevers = {"", "never d;", "never not d;", "never not d;never a and b;", "never c and not a;never d and b;"};
        for (String shape : shapes) {
            for (int turned = 0; turned < 16; turned++) {
                String goal = shape;
                for (int c = 0; c < 4; c++) {
                    goal = goal.replaceFirst("\\?", ((turned >> c & 1) == 1 ? "not " : "") + Edge.NAMES[c]);
                }
                for (String never : nevers) {
                    String text = Edge.conds(4) + "goal " + goal + ";" + never + "costs (number * 7 + " + turned + ") % 5;";
                    // all sets of sixteen tests are many: by one form alone
                    for (int form = never.isEmpty() ? turned % 3 : 0; form < 3; form += never.isEmpty() ? 3 : 1) {
                        FlipCover x = Bench.of(text);
                        due(text + " least " + form, x.least(form, 1), lightest(x, form, ones, 0));
                        int[] costs = new int[16];
                        for (int t = 0; t < 16; t++) {
                            costs[t] = x.test(t, 4) * 32 + 1;
                        }
                        due(text + " cheapest " + form, x.cheapest(form, 1), lightest(x, form, costs, 0));
                        x.run(turned);
                        x.run(turned ^ 5);
                        due(text + " more " + form, x.more(form, 1), lightest(x, form, ones, x.about(2)));
                    }
                }
            }
        }
    }

    private static void cheapest() {
        edge.of("23: of the least COST together: 0 each, 99 each, 1 if not told");
        FlipCover x = Bench.of(AND_OR + "costs 0;");
        due("0 each", x.cheapest(0, 0), 0);
        due("0 each, the fewest", x.cheapest(0, 1), 46);
        x = Bench.of(AND_OR + "costs 9999;");
        due("99 each", x.cheapest(0, 0), 396);
        due("99 each, which", x.cheapest(0, 1), 46);
        x = Bench.of(AND_OR);
        due("1 each", x.cheapest(0, 0), 4);
        x = Bench.of(Edge.conds(4) + "goal a and b and c and d;costs 99;");
        due("five of 99", x.cheapest(0, 0), 495);
        x = Bench.of("cond a;goal a;costs (number = 0) * 99;");
        due("99 and 0", x.cheapest(0, 0), 99);
        x = Bench.of("cond a;cond b;goal a;costs (number < 2) * 99 + (number = 3);");
        due("0 and 1", x.cheapest(0, 0), 1);
        due("0 and 1, which", x.cheapest(0, 1), set(2, 3));
        x = Bench.of("cond a;cond b;goal a;costs 98 + (number < 2);");
        due("98 each, not 99", x.cheapest(0, 1), set(2, 3));
        due("98 each", x.cheapest(0, 0), 196);
        due("the fewest is another", x.least(0, 1), set(0, 1));
    }

    private static void cheapestOfLikeOnes() {
        edge.of("23: of like ones of the fewest TESTS, then the least as bits");
        // a by 2 3, 4 5, 6 7; b by 1 3; c by 1 5: 4 tests with 2 or with 4 cost 5, 5 tests cost 5
        FlipCover x = Bench.of(AND_OR + "costs 1 + (number = 2 or number = 4);");
        due("of like cost four, not five", x.cheapest(0, 1), set(1, 2, 3, 5));
        x = Bench.of(AND_OR + "costs 1 + (number = 2) * 2 + (number = 4);");
        due("of like cost four, not five, the one of 4", x.cheapest(0, 1), set(1, 3, 4, 5));
        x = Bench.of(AND_OR + "costs 1 + 2 * (number = 2 or number = 4);");
        due("less for five", x.cheapest(0, 1), set(1, 3, 5, 6, 7));
        x = Bench.of(AND_OR + "costs (number > 0 and number < 6) * 1;");
        due("five for 3, not four for 4", x.cheapest(0, 1), set(1, 3, 5, 6, 7));
        x = Bench.of(AND_OR + "costs (number = 1 or number = 3 or number = 5) * 7;");
        due("2 and 4, 6 and 7 for nothing: the fewest", x.cheapest(0, 1), set(1, 2, 3, 5));
        x = Bench.of(AND_OR + "costs 7 - (number = 4 or number = 2);");
        due("2 and 4 alike: the least as bits", x.cheapest(0, 1), set(1, 2, 3, 5));
        // a by 2 3, 4 5 or 0 1, b by 4 6, c by 2 6: five tests that are less as bits than four
        x = Bench.of(Edge.conds(3) + "goal not a and (not b or not c);costs 1 + (number = 3 or number = 5);");
        due("four, not five that are less as bits", x.cheapest(0, 1), set(2, 3, 4, 6));
        due("both for 5", x.cheapest(0, 0), 5);
        x = Bench.of(Edge.conds(3) + "goal not a and (not b or not c);costs 99 * (number = 2 or number = 4 or number > 5);");
        due("four, not five, where what is unlike is for nothing", x.cheapest(0, 1), set(2, 3, 4, 6));
        x = Bench.of(Edge.conds(3) + "goal not a and (not b or not c);costs 1 + (number = 3 or number = 5) * 2;");
        due("five that cost less", x.cheapest(0, 1), set(0, 1, 2, 4, 6));
        for (String e : new String[] {"number", "7 - number", "ones * 3", "looks", "comes * 2", "(number % 3) * 9", "number * number",
            "50 / (number + 1)", "(number = 1) * 99", "ones = 2"}) {
            for (int form = 0; form < 3; form++) {
                x = Bench.of(AND_OR + "costs " + e + ";");
                int best = -1;
                int least = 0;
                for (int set = 0; set < 256; set++) {
                    int weight = Integer.bitCount(set);
                    for (int t = 0; t < 8; t++) {
                        weight += (set >> t & 1) * x.test(t, 4) * 100;
                    }
                    if (x.covers(set, form) == 7 && (best < 0 || weight < least)) {
                        best = set;
                        least = weight;
                    }
                }
                due(e + " which " + form, x.cheapest(form, 1), best);
                due(e + " cost " + form, x.cheapest(form, 0), least / 100);
            }
        }
    }

    private static void more() {
        edge.of("24: MORE: the LOG is empty, covers some, covers all, holds all");
        FlipCover x = Bench.of(AND_OR);
        due("empty", x.more(0, 1), 46);
        x.run(0);
        due("one that does nothing", x.more(0, 1), 46);
        for (int t : new int[] {1, 2, 3}) {
            x.run(t);
        }
        due("one is left", x.more(0, 1), 32);
        due("how many", x.more(0, 0), 1);
        x.run(5);
        due("none is left", x.more(0, 1), 0);
        for (int t = 0; t < 8; t++) {
            x.run(t);
        }
        due("all", x.more(0, 0), 0);
        x = ran(AND_OR, 6, 7);
        due("what is in it is not in MORE", x.more(0, 1), set(1, 3, 5));
        x.undo();
        x.undo();
        due("empty again", x.more(0, 1), 46);
        x.redo();
        x.redo();
        due("as ahead of it", x.more(0, 1), set(1, 3, 5));
    }

    private static void percent() {
        edge.of("21: cut; 100 if none is covered by all");
        FlipCover x = Bench.of(Edge.conds(3) + "goal a and b and c;");
        int[] three = {0, 33, 66, 100};
        for (int n = 0; n <= 3; n++) {
            due(n + " of three", x.percent(0), three[n]);
            x.run(7);
            x.run(7 ^ 1 << n);
        }
        x = Bench.of(Edge.conds(4) + "goal a and b and c and d;");
        for (int n = 0; n <= 4; n++) {
            due(n + " of four", x.percent(0), n * 25);
            x.run(15);
            x.run(15 ^ 1 << n);
        }
        x = Bench.of(Edge.conds(2) + "goal a and b;");
        x.run(3);
        due("one test", x.percent(0), 0);
        x.run(1);
        due("one of two", x.percent(0), 50);
        due("of one", ran("cond a;cond b;goal a;", 0, 1).percent(0), 100);
        for (int form = 0; form < 3; form++) {
            due("none", Bench.of("cond a;goal true;").percent(form), 100);
            due("no conditions", new FlipCover().percent(form), 100);
            due("none can be", Bench.of("cond a;goal a;never true;").percent(form), 100);
            due("an empty log", Bench.of("cond a;goal a;").percent(form), 0);
        }
    }

    private static void next() {
        edge.of("25: NONE if there is none");
        FlipCover x = Bench.of(Edge.conds(4) + "goal a;never a and b and c and d;");
        for (int n = 0; n < 15; n++) {
            due("there is one", x.next(0) >= 0, true);
            x.run(x.next(0));
        }
        due("all that can be are in the LOG", x.about(2), 0x7FFF);
        for (int form = 0; form < 3; form++) {
            due("none", x.next(form), -1);
        }
        x.drop(14);
        due("one again, the last", x.next(0), 14);
        due("none can be", Bench.of("cond a;goal a;never true;").next(0), -1);
        due("test 0", new FlipCover().next(0), 0);
        edge.of("25: of like ones the first");
        x = Bench.of("cond a;cond b;goal a;");
        due("an empty log", x.next(0), 0);
        x.run(3);
        due("2 covers", x.next(0), 2);
        due("0 as well", x.next(1), 0);
        x.run(2);
        due("none gains", x.next(0), 0);
        x.run(0);
        due("none gains, the next", x.next(0), 1);
    }

    private static void needless() {
        edge.of("26: without each of which alone it covers as many");
        due("an empty log", Bench.of(AND_OR).needless(0), 0);
        due("one that covers nothing", ran(AND_OR, 3).needless(0), 8);
        due("a pair", ran(AND_OR, 2, 3).needless(0), 0);
        due("each alone, not both", ran("cond a;cond b;goal a;", 0, 1, 2, 3).needless(1), 15);
        due("three of four", ran("cond a;cond b;goal a;", 0, 1, 2).needless(1), set(0, 2));
        due("nothing can be covered", ran("cond a;goal true;", 0, 1).needless(2), 3);
        due("without conditions", ran("", 0).needless(0), 1);
    }

    private static void couple() {
        edge.of("28: 1 always alike, 2 always unlike, 3 both (there are none), 0 not so");
        for (int can = 0; can < 16; can++) {
            String never = "";
            for (int t = 0; t < 4; t++) {
                if ((can >> t & 1) == 0) {
                    never += "never " + (t % 2 == 1 ? "a" : "not a") + " and " + (t / 2 == 1 ? "b" : "not b") + ";";
                }
            }
            FlipCover x = Bench.of("cond a;cond b;" + never);
            due("what can be", x.possible(), can);
            int want = can == 0 ? 3 : (can & 6) == 0 ? 1 : (can & 9) == 0 ? 2 : 0;
            due(can + " can be", x.couple(0, 1), want);
            due(can + " can be, turned round", x.couple(1, 0), want);
            due(can + " can be, itself", x.couple(1, 1), can == 0 ? 3 : 1);
            edge.of("29: NONE if not the same in all, there are none, or there is none such");
            due(can + " can be, a", x.fixed(0), can == 0 ? -1 : (can & 10) == 0 ? 0 : (can & 5) == 0 ? 1 : -1);
            due(can + " can be, b", x.fixed(1), can == 0 ? -1 : (can & 12) == 0 ? 0 : (can & 3) == 0 ? 1 : -1);
            edge.of("28: 1 always alike, 2 always unlike, 3 both (there are none), 0 not so");
        }
    }

    private static void fixed() {
        edge.of("29: What a CONDITION is in all TESTS that CAN BE");
        for (int cond = 0; cond < 4; cond++) {
            String name = Edge.NAMES[cond];
            due("0, " + name, Bench.of(Edge.conds(4) + "never " + name + ";").fixed(cond), 0);
            due("1, " + name, Bench.of(Edge.conds(4) + "never not " + name + ";").fixed(cond), 1);
            due("neither, " + name, Bench.of(Edge.conds(4)).fixed(cond), -1);
            due("both nevers, " + name, Bench.of(Edge.conds(4) + "never " + name + ";never not " + name + ";").fixed(cond), -1);
        }
    }

    private static void dead() {
        edge.of("30: LOOKS that no TEST that CAN BE looks at");
        due("all ten, for there are none", Bench.of(TEN + "never true;").dead(), 1023);
        due("none", Bench.of("cond a;goal a;").dead(), 0);
        due("without looks", Bench.of("cond a;never true;").dead(), 0);
        due("looked at by what can't be alone", Bench.of("cond a;cond b;goal a and b;never a;").dead(), 2);
        due("the last", Bench.of("cond a;goal a or not a or a;").dead(), 4);
        due("the tenth", Bench.of("cond a;goal true" + " and true".repeat(8) + " or a;").dead(), 512);
    }

    private static void ways() {
        edge.of("32: WAYS TESTS that CAN BE go");
        due("without a goal", Bench.of("cond a;").ways(), 1);
        due("none can be", Bench.of("cond a;never true;").ways(), 0);
        due("none can be, without conditions", Bench.of("never true;").ways(), 0);
        due("without conditions", Bench.of("goal true or false;").ways(), 1);
        due("one look", Bench.of("cond a;goal a;").ways(), 2);
        due("true", Bench.of("cond a;goal true and true;").ways(), 1);
        due("sixteen", Bench.of(Edge.conds(4)
            + "goal (a or true) and (b or true) and (c or true) and (d or true);").ways(), 16);
        due("fifteen", Bench.of(Edge.conds(4)
            + "goal (a or true) and (b or true) and (c or true) and (d or true);never a and b and c and d;").ways(), 15);
        due("like looks, unlike what they are", Bench.of("cond a;goal a or true and a;").ways(), 2);
        // a b, found 1 0 and 0 0, and a alone
        due("unlike in the second alone", Bench.of("cond a;cond b;goal a and b;").ways(), 3);
        due("one can't be", Bench.of("cond a;cond b;goal a and b;never a and b;").ways(), 2);
    }

    private static void mean() {
        edge.of("33: in lowest terms (0 of 1, if there are none)");
        String[] texts = {"cond a;goal a;never true;", "cond a;", "goal true;", "cond a;goal a and a;", "cond a;cond b;goal a and b;",
            AND_OR, "cond a;cond b;goal a and b;never a and b;", TEN, Edge.conds(4) + "goal a and b and c and d;", "never true;"};
        // of TEN the first and the sixth are looked at by 0, the first five by 1
        int[] uppers = {0, 0, 1, 3, 3, 7, 4, 7, 15, 0};
        int[] lowers = {1, 1, 1, 2, 2, 4, 3, 2, 8, 1};
        for (int i = 0; i < texts.length; i++) {
            FlipCover x = Bench.of(texts[i]);
            due("<" + texts[i] + "> upper", x.mean(0), uppers[i]);
            due("<" + texts[i] + "> lower", x.mean(1), lowers[i]);
        }
        FlipCover x = Bench.of("cond a;goal a" + " and a".repeat(9) + ";never not a;");
        due("all ten, upper", x.mean(0), 10);
        due("all ten, lower", x.mean(1), 1);
    }

    private static void faultiesThereAre() {
        edge.of("34 to 36: how many there are; NONE if there is none such");
        for (int n = 0; n <= 10; n++) {
            FlipCover x = Bench.of("cond a;" + (n == 0 ? "" : "goal a" + " and a".repeat(n - 1) + ";"));
            int count = n == 0 ? 0 : n - 1 + 3 * n;
            due("of " + n + " looks", x.faulties(), count);
            due("alive of " + n + " looks", x.alive(0), count);
            due("all and none fit, of " + n + " looks", x.fits(0), count + 1);
            for (int what = 0; what < 2; what++) {
                due("the last of " + n, x.faulty(count - 1, what), n == 0 ? -1 : what == 0 ? 3 : n - 1);
                due("one more than " + n, x.faulty(count, what), -1);
                due("-1 of " + n, x.faulty(-1, what), -1);
                for (int far : Edge.FAR) {
                    due(far + " of " + n, x.faulty(far, what), -1);
                }
            }
            due("the last of " + n + " is shown", x.shows(count - 1), n == 0 ? -1 : n == 1 ? 1 : 0);
            due("one more than " + n + " is not", x.shows(count), -1);
            due("-1 of " + n + " is not", x.shows(-1), -1);
            for (int far : Edge.FAR) {
                due(far + " of " + n + " is not", x.shows(far), -1);
            }
        }
    }

    private static void turned() {
        edge.of("3: FAULTY: first, and by and, or by or as they stand from the left, one turned into the other one");
        FlipCover x = Bench.of("cond x;cond y;cond z;goal x and y and z;");
        due("the first one turned, is (x or y) and z", x.truths() ^ x.shows(0), set(5, 6, 7));
        due("the second, (x and y) or z", x.truths() ^ x.shows(1), set(3, 4, 5, 6, 7));
        x = Bench.of("cond x;cond y;cond z;goal x or y or z;");
        due("the first of ors, (x and y) or z", x.truths() ^ x.shows(0), set(3, 4, 5, 6, 7));
        due("the second of ors, (x or y) and z", x.truths() ^ x.shows(1), set(5, 6, 7));
        x = Bench.of("cond x;cond y;cond z;goal x and y or z;");
        due("(x or y) or z", x.truths() ^ x.shows(0), 254);
        due("(x and y) and z", x.truths() ^ x.shows(1), 128);
        x = Bench.of("cond x;cond y;cond z;goal x or y and z;");
        due("x and (y and z)", x.truths() ^ x.shows(0), 128);
        due("x or (y or z)", x.truths() ^ x.shows(1), 254);
        x = Bench.of(Edge.conds(4) + "goal a or b and c or d;");
        due("(a and (b and c)) or d", x.truths() ^ x.shows(0), 0xFF80);
        due("(a or (b or c)) or d", x.truths() ^ x.shows(1), 0xFFFE);
        due("(a or (b and c)) and d", x.truths() ^ x.shows(2), 0xEA00);
        x = Bench.of("cond x;cond y;goal not (x and y) or x;");
        due("not (x or y) or x", x.truths() ^ x.shows(0), set(0, 1, 3));
        due("not (x and y) and x", x.truths() ^ x.shows(1), set(1));
        edge.of("3: FAULTY: none is turned where there is one LOOK alone");
        due("three", Bench.of("cond a;goal not ((a));").faulties(), 3);
        due("the first is the look turned over", Bench.of("cond a;goal not ((a));").faulty(0, 0), 1);
        edge.of("35: which and or or (as they stand, 0 ..)");
        x = Bench.of("cond a;goal a" + " or a and (a)".repeat(4) + " and a;");
        for (int i = 0; i < 9; i++) {
            due("kind " + i, x.faulty(i, 0), 0);
            due("which " + i, x.faulty(i, 1), i);
        }
        due("then the first look", x.faulty(9, 0), 1);
    }

    private static void toldTwoByTwo() {
        edge.of("3: then each LOOK turned over (not of it); then each LOOK told 0, told 1 (these two by two)");
        FlipCover x = Bench.of(TEN);
        for (int look = 0; look < 10; look++) {
            due("turned over " + look, x.faulty(9 + look, 0), 1);
            due("turned over, which " + look, x.faulty(9 + look, 1), look);
            due("told 0, " + look, x.faulty(19 + 2 * look, 0), 2);
            due("told 0, which " + look, x.faulty(19 + 2 * look, 1), look);
            due("told 1, " + look, x.faulty(20 + 2 * look, 0), 3);
            due("told 1, which " + look, x.faulty(20 + 2 * look, 1), look);
        }
        x = Bench.of("cond a;cond b;goal a or not b;");
        // comes to 1 by 0 1 3; or turned, a, b turned over, a told 0, 1, b told 0, 1
        int[] shows = {set(0, 3), set(2, 3), set(0, 2), set(3), set(2), set(2), set(0)};
        for (int f = 0; f < 7; f++) {
            due("shows " + f, x.shows(f), shows[f]);
        }
        edge.of("3: a LOOK that is true or false is turned over, told 0, told 1, too");
        x = Bench.of("goal true;");
        due("turned over", x.shows(0), 1);
        due("told 0", x.shows(1), 1);
        due("told 1", x.shows(2), 0);
        x = Bench.of("goal false;");
        due("false turned over", x.shows(0), 1);
        due("false told 0", x.shows(1), 0);
        due("false told 1", x.shows(2), 1);
        edge.of("3: one LOOK of a CONDITION that is told twice, not both");
        x = Bench.of("cond a;goal a and a;");
        due("the first told 0", x.shows(3), 2);
        due("the first told 1", x.shows(4), 0);
        due("the second turned over", x.shows(2), 2);
    }

    private static void shown() {
        edge.of("37: (0 if it can't be)");
        FlipCover x = Bench.of("cond a;goal a;never a;");
        due("it can't be", x.shown(1), 0);
        due("it can be", x.shown(0), 2);
        due("all can be", Bench.of("cond a;goal a;").shown(1), 2);
        due("none of them", Bench.of("cond a;").shown(1), 0);
        due("ten, five of them for nothing", Bench.of(TEN).shown(1), 0);
        due("ten and", Bench.of("cond a;goal a" + " and a".repeat(9) + ";").shown(1), 20);
        due("ten or", Bench.of("cond a;goal a" + " or a".repeat(9) + ";").shown(0), 20);
        edge.of("36: TESTS that SHOW (that CAN BE)");
        due("turned over", x.shows(0), 1);
        due("told 0", x.shows(1), 0);
        due("told 1", x.shows(2), 1);
    }

    private static void alive() {
        edge.of("38: no TEST of the LOG SHOWS (what 0), no TEST at all (1)");
        FlipCover x = Bench.of("cond a;goal a;never a;");
        due("an empty log", x.alive(0), 3);
        due("told 0 is shown by what can't be", x.alive(1), 1);
        x.run(0);
        due("by 0", x.alive(0), 1);
        due("none can be", Bench.of("cond a;goal a;never true;").alive(1), 3);
        due("without a goal", Bench.of("cond a;").alive(0), 0);
        due("all are shown", Bench.of("cond a;goal a;").alive(1), 0);
        due("39 and an empty log", Bench.of(TEN).alive(0), 39);
    }

    private static void killers() {
        edge.of("39: KILLERS: the fewest; of like ones the least as bits");
        due("none to show", Bench.of("cond a;").killers(1), 0);
        due("none can be", Bench.of("cond a;goal a;never true;").killers(1), 0);
        due("one", Bench.of("goal true;").killers(1), 1);
        due("one, how many", Bench.of("goal true;").killers(0), 1);
        due("both", Bench.of("cond a;goal a;").killers(1), 3);
        due("one can't be", Bench.of("cond a;goal a;never not a;").killers(1), 2);
        String[] goals = {"a and (b or c)", "a or b and not c", "a and b or a and c", "a", "not b or c and a", "a and b and c",
            "true and (b or false)", "a and a or not a"};
        for (String goal : goals) {
            for (String never : new String[] {"", "never a and b;", "never not a;never b and c;"}) {
                FlipCover x = Bench.of(Edge.conds(3) + "goal " + goal + ";" + never);
                int best = -1;
                for (int set = 0; set < 256; set++) {
                    boolean all = (set & ~x.possible()) == 0;
                    for (int f = 0; f < x.faulties(); f++) {
                        all = all && (x.shows(f) == 0 || (x.shows(f) & set) != 0);
                    }
                    if (all && (best < 0 || Integer.bitCount(set) < Integer.bitCount(best))) {
                        best = set;
                    }
                }
                due(goal + " " + never, x.killers(1), best);
                due(goal + " " + never + " how many", x.killers(0), Integer.bitCount(best));
            }
        }
    }

    private static void exchange() {
        edge.of("40: NONE if there is no such LOOK, or one is true or false");
        for (int n = 1; n <= 10; n++) {
            FlipCover x = Bench.of("cond a;goal a" + " and a".repeat(n - 1) + ";");
            due("the last of " + n, x.exchange(0, n - 1), 1);
            due("the last of " + n + ", itself", x.exchange(n - 1, n - 1), 1);
            due("one more than " + n, x.exchange(0, n), -1);
            due("one more than " + n + ", first", x.exchange(n, 0), -1);
            due("-1 of " + n, x.exchange(-1, 0), -1);
            due("-1 of " + n + ", second", x.exchange(0, -1), -1);
            for (int far : Edge.FAR) {
                due(far + " of " + n, x.exchange(far, 0), -1);
                due(far + " of " + n + ", second", x.exchange(0, far), -1);
            }
        }
        due("no looks", new FlipCover().exchange(0, 0), -1);
        FlipCover x = Bench.of("cond a;cond b;goal a and not b and true or false;");
        for (int look = 0; look < 4; look++) {
            due("true", x.exchange(look, 2), -1);
            due("false", x.exchange(3, look), -1);
        }
        due("neither", x.exchange(0, 1), 0);
        edge.of("40: each TEST (that CAN BE or not)");
        due("unlike by what can't be", Bench.of("cond a;cond b;goal a and not b;never a and not b;never b and not a;")
            .exchange(0, 1), 0);
        due("alike", Bench.of("cond a;cond b;goal not a and not b;").exchange(0, 1), 1);
    }

    private static void law() {
        edge.of("41: were no never told");
        for (int form = 0; form < 3; form++) {
            FlipCover x = Bench.of(Edge.conds(4) + "goal a and b and c and d;never true;");
            due("none can be", x.coverable(form), 0);
            due("all would", x.law(form), 4);
            x = Bench.of(Edge.conds(4) + "goal a and b and c and d;never a;never b;never c;never d;");
            due("0 alone can be", x.law(form), 4);
            due("without never", Bench.of(Edge.conds(4) + "goal a and b and c;").law(form), 3);
            due("none", Bench.of("cond a;goal a or true;").law(form), 0);
            due("without conditions", Bench.of("goal true;").law(form), 0);
        }
        // b is looked at by both, a is unlike then; c sways nothing
        FlipCover x = Bench.of("cond a;cond b;goal a and b or not a and b;never a and b;");
        due("b alone", x.law(0), 1);
        due("b alone, as it is told", x.coverable(0), 2);
    }
}
