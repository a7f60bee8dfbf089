import java.util.List;

/** Compares the program's answers with the oracle's, over made texts and made runs of calls. */
public final class OracleTest {
    private static final int RUNS = 120;
    private static final int FAULTY_TEXTS = 8000;
    private static final Bench bench = new Bench();

    private static String heading = "";
    private static FlipCover x;
    private static Oracle y;

    public static void main(String[] args) {
        for (int run = 0; run < RUNS && bench.wrong() < 20; run++) {
            Texts texts = new Texts(run);
            x = new FlipCover();
            y = new Oracle();
            for (int n = 0; n < 3; n++) {
                decide(texts, run);
                // four conditions take the oracle long
                sweep(texts, y.about(0) < 4 || run % 40 == 0);
                live(texts, 120);
            }
        }
        faults();
        bench.end("OracleTest");
    }

    private static void decide(Texts texts, int run) {
        List<String> tokens = texts.tokens(texts.pick(10) < 2 ? texts.pick(3) : 2 + texts.pick(3));
        if (texts.pick(6) == 0) {
            texts.spoil(tokens);
        }
        decide(texts.joined(tokens), run);
    }

    private static void decide(String text, int run) {
        heading = "run " + run + " <" + text + "> ";
        for (int at = 0; at < text.length(); at += 20) {
            int[] n = new int[5];
            for (int i = 0; i < 5; i++) {
                n[i] = Bench.four(text, at + 4 * i);
            }
            due("feed", x.feed(n[0], n[1], n[2], n[3], n[4]), y.feed(n[0], n[1], n[2], n[3], n[4]));
        }
        due("end", x.end(text.length()), y.end(text.length()));
        due("decision", x.decision(), y.decision());
        due("fault 0", x.fault(0), y.fault(0));
        due("fault 1", x.fault(1), y.fault(1));
    }

    private static void due(String call, long got, long want) {
        bench.due(heading + call, got, want);
    }

    private static void due(String call, boolean got, boolean want) {
        bench.due(heading + call, got, want);
    }

    /** Asks all that hangs on the decision alone. */
    private static void sweep(Texts texts, boolean sets) {
        for (int i = -1; i <= 16; i++) {
            for (int what = -1; what <= 7; what++) {
                due("test " + i + " " + what, x.test(i, what), y.test(i, what));
            }
            for (int what = -1; what <= 2; what++) {
                due("look " + i + " " + what, x.look(i, what), y.look(i, what));
            }
            due("shown " + i, x.shown(i), y.shown(i));
            for (int j = -1; j <= 10; j++) {
                due("exchange " + i + " " + j, x.exchange(i, j), y.exchange(i, j));
            }
            due("about " + i, x.about(i), y.about(i));
        }
        for (int cond = -1; cond <= 4; cond++) {
            due("sway " + cond, x.sway(cond), y.sway(cond));
            due("fixed " + cond, x.fixed(cond), y.fixed(cond));
            for (int i = -1; i <= 4; i++) {
                due("couple " + cond + " " + i, x.couple(cond, i), y.couple(cond, i));
                due("pairs " + cond + " " + i, x.pairs(cond, i), y.pairs(cond, i));
            }
            for (int form = -1; form <= 3; form++) {
                for (int i = -1; i <= 16; i++) {
                    String call = cond + " " + i + " " + form;
                    due("partners " + call, x.partners(cond, i, form), y.partners(cond, i, form));
                    int other = texts.pick(18) - 1;
                    due("pair " + call + " with " + other, x.pair(cond, i, other, form), y.pair(cond, i, other, form));
                }
            }
        }
        for (int f = -1; f <= 40; f++) {
            due("shows " + f, x.shows(f), y.shows(f));
            for (int what = -1; what <= 2; what++) {
                due("faulty " + f + " " + what, x.faulty(f, what), y.faulty(f, what));
            }
        }
        due("possible", x.possible(), y.possible());
        due("truths", x.truths(), y.truths());
        due("dead", x.dead(), y.dead());
        due("ways", x.ways(), y.ways());
        due("faulties", x.faulties(), y.faulties());
        for (int what = -1; what <= 3; what++) {
            due("mean " + what, x.mean(what), y.mean(what));
            due("law " + what, x.law(what), y.law(what));
            due("coverable " + what, x.coverable(what), y.coverable(what));
            for (int n = -1; n <= 5; n++) {
                due("odds " + n + " " + what, x.odds(n, what), y.odds(n, what));
            }
            for (int form = -1; sets && form <= 3; form++) {
                due("least " + form + " " + what, x.least(form, what), y.least(form, what));
                due("cheapest " + form + " " + what, x.cheapest(form, what), y.cheapest(form, what));
            }
            due("killers " + what, sets ? x.killers(what) : 0, sets ? y.killers(what) : 0);
        }
    }

    /** Makes a run of calls that change something, and asks what changes by them. */
    private static void live(Texts texts, int calls) {
        for (int n = 0; n < calls; n++) {
            int i = texts.pick(18) - 1;
            int small = texts.pick(6) - 1;
            change(texts, i, small);
            int form = texts.pick(10) == 0 ? small : texts.pick(3);
            int k = texts.pick(3) == 0 ? texts.pick(5000) - 1 : y.about(9) - texts.pick(60);
            for (int what = 2; what < 10; what++) {
                due("about " + what, x.about(what), y.about(what));
            }
            due("covered " + form, x.covered(form), y.covered(form));
            due("percent " + form, x.percent(form), y.percent(form));
            due("next " + form, x.next(form), y.next(form));
            due("needless " + form, x.needless(form), y.needless(form));
            int set = texts.pick(1 << Math.min(18, (1 << y.about(0)) + 1)) - 1;
            due("covers " + set + " " + form, x.covers(set, form), y.covers(set, form));
            due("halves", x.halves(), y.halves());
            due("alive " + small, x.alive(small), y.alive(small));
            due("test 6", x.test(i, 6), y.test(i, 6));
            due("fits " + k, x.fits(k), y.fits(k));
            int place = texts.pick(4) == 0 ? texts.pick(42) - 1 : texts.pick(5) - 1;
            due("culprit " + place + " " + k, x.culprit(place, k), y.culprit(place, k));
            int what = texts.pick(10) == 0 ? small : texts.pick(2);
            due("ask " + what + " " + k, x.ask(what, k), y.ask(what, k));
            if (y.about(0) < 4 || n % 100 == 99) {
                due("more " + form + " " + what, x.more(form, what), y.more(form, what));
            }
        }
    }

    private static void change(Texts texts, int i, int small) {
        switch (texts.pick(14)) {
            case 0:
                due("drop " + i, x.drop(i), y.drop(i));
                break;
            case 1:
                due("merge " + small, x.merge(small), y.merge(small));
                break;
            case 2:
            case 3:
                due("undo", x.undo(), y.undo());
                break;
            case 4:
                due("redo", x.redo(), y.redo());
                break;
            case 5:
                due("image " + small, x.image(small), y.image(small));
                break;
            case 6:
                if (texts.pick(3) == 0) {
                    due("back " + small, x.back(small), y.back(small));
                }
                break;
            case 7:
                boolean is = texts.pick(5) == 0 ? texts.pick(2) == 0 : i >= 0 && y.test(i, 0) == 1;
                due("seen " + i + " " + is, x.seen(i, is), y.seen(i, is));
                break;
            case 8:
                int seen = texts.pick(10) - 1;
                due("untell " + seen, x.untell(seen), y.untell(seen));
                break;
            case 9:
                int by = texts.pick(20) == 0 ? texts.pick(1200) - 1 : texts.pick(20);
                due("later " + by, x.later(by), y.later(by));
                break;
            default:
                due("run " + i, x.run(i), y.run(i));
                break;
        }
    }

    /** Reads many spoiled texts. */
    private static void faults() {
        for (int run = 0; run < FAULTY_TEXTS && bench.wrong() < 20; run++) {
            Texts texts = new Texts(1000000 + run);
            if (run % 8 == 0) {
                x = new FlipCover();
                y = new Oracle();
            }
            List<String> tokens = texts.tokens(texts.pick(5));
            texts.spoil(tokens);
            decide(texts.joined(tokens), run);
            due("truths", x.truths(), y.truths());
            due("possible", x.possible(), y.possible());
            due("units", x.about(11), y.about(11));
        }
    }
}
