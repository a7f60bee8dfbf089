import java.util.ArrayList;
import java.util.Arrays;
import java.util.List;
import java.util.function.ToLongFunction;

/**
 * A call that is refused, and a call that only asks, leaves all as it was: an object on which it was made answers as its
 * twin on which it was not. No object is used for more than 512 calls.
 */
public final class RefusedTest {
    private static final Edge edge = new Edge();
    private static final int PROBES = 4;
    private static final String AND_OR = "cond a;cond b;cond c;goal a and (b or c) or false;never a and b and c;"
        + "costs 3 + ones * looks;loses 12;draw 34;";

    private interface State {
        FlipCover make();
    }

    private record Call(String name, long answer, ToLongFunction<FlipCover> on) { }

    public static void main(String[] args) {
        compare("a new object", FlipCover::new, refusedOfNew());
        compare("in use", RefusedTest::inUse, refusedInUse());
        compare("full", RefusedTest::full, refusedOfFull());
        compare("nothing can be", () -> Bench.of("cond a;goal a;never true;"), refusedOfNothing());
        compare("behind a fault", RefusedTest::behindAFault, refusedInUse());
        edge.of("4: NONE: a FAULT (the TAPE is empty then, too; all else stays)");
        faults();
        edge.end("RefusedTest");
    }

    /** Acts done and taken back, a box of three kept, things seen at two times, bytes on the tape. */
    private static FlipCover inUse() {
        FlipCover x = Bench.of(AND_OR);
        x.run(3);
        x.run(1);
        x.run(5);
        x.image(1);
        x.drop(1);
        x.run(2);
        x.undo();
        x.undo();
        x.seen(3, true);
        x.later(10);
        x.seen(1, false);
        x.seen(7, true);
        x.later(5);
        x.untell(0);
        Bench.put(x, "cond z;goal z;cond y;");
        return x;
    }

    /** Forty acts, thirty seen, a full tape, the last time but one, all boxes kept. */
    private static FlipCover full() {
        FlipCover x = Bench.of(AND_OR.replace("never a and b and c;", ""));
        for (int n = 0; n < 45; n++) {
            x.run(n * 5 % 8);
            if (n % 20 == 4) {
                x.image(n / 20);
            }
        }
        for (int n = 0; n < 30; n++) {
            x.seen(n % 8, n % 8 == 3 || n % 8 == 5 || n % 8 == 7);
        }
        for (int n = 0; n < 99; n++) {
            x.later(1000);
        }
        x.later(999);
        Bench.put(x, "cond z;goal z;cond y;" + " ".repeat(1579));
        return x;
    }

    private static FlipCover behindAFault() {
        FlipCover x = inUse();
        Bench.put(x, "");
        Bench.put(x, "cond a;cond b;cond c;loses 101;");
        x.decision();
        Bench.put(x, "cond z;goal z;cond y;");
        return x;
    }

    private static void refuse(List<Call> calls, String name, long answer, ToLongFunction<FlipCover> on) {
        calls.add(new Call(name, answer, on));
    }

    private static long is(boolean answer) {
        return answer ? 1 : 0;
    }

    /** What is refused in each state. */
    private static List<Call> refusedEver() {
        List<Call> calls = new ArrayList<>();
        for (int n : new int[] {-1, Integer.MIN_VALUE, Integer.MAX_VALUE, 1601}) {
            refuse(calls, "end " + n, -1, x -> x.end(n));
            refuse(calls, "run " + n, -1, x -> x.run(n));
            refuse(calls, "drop " + n, -1, x -> x.drop(n));
            refuse(calls, "merge " + n, -1, x -> x.merge(n));
            refuse(calls, "seen " + n, -1, x -> x.seen(n, true));
            refuse(calls, "untell " + n, 0, x -> is(x.untell(n)));
            refuse(calls, "later " + n, -1, x -> x.later(n));
            refuse(calls, "image " + n, -1, x -> x.image(n));
            refuse(calls, "back " + n, -1, x -> x.back(n));
        }
        refuse(calls, "image 3", -1, x -> x.image(3));
        refuse(calls, "back 3", -1, x -> x.back(3));
        refuse(calls, "merge 3", -1, x -> x.merge(3));
        refuse(calls, "later 1001", -1, x -> x.later(1001));
        refuse(calls, "untell 30", 0, x -> is(x.untell(30)));
        refuse(calls, "seen 8", -1, x -> x.seen(8, true));
        refuse(calls, "run 8", -1, x -> x.run(8));
        refuse(calls, "drop 8", -1, x -> x.drop(8));
        for (int what : new int[] {-1, 2, 13, 99}) {
            refuse(calls, "fault " + what, -1, x -> x.fault(what));
            refuse(calls, "mean " + what, -1, x -> x.mean(what));
            refuse(calls, "alive " + what, -1, x -> x.alive(what));
            refuse(calls, "killers " + what, -1, x -> x.killers(what));
            refuse(calls, "ask " + what, -1, x -> x.ask(what, 0));
            refuse(calls, "odds " + what, -1, x -> x.odds(0, what));
            refuse(calls, "odds of " + what, -1, x -> x.odds(what == 2 ? 5 : what, 0));
            refuse(calls, "look " + what, -2, x -> x.look(what == 2 ? 10 : what, 0));
            refuse(calls, "exchange " + what, -1, x -> x.exchange(what == 2 ? 10 : what, 0));
            refuse(calls, "shows " + what, -1, x -> x.shows(what == 2 ? 40 : what == 13 ? 41 : what));
            refuse(calls, "culprit " + what, -2, x -> x.culprit(what == 2 ? 40 : what == 13 ? 41 : what, 0));
            refuse(calls, "about " + what, -1, x -> x.about(what == 2 ? 14 : what));
            int form = what == 2 ? 3 : what;
            refuse(calls, "covers " + what, -1, x -> x.covers(1, form));
            refuse(calls, "least " + what, -1, x -> x.least(form, 1));
            refuse(calls, "cheapest " + what, -1, x -> x.cheapest(form, 1));
            refuse(calls, "more " + what, -1, x -> x.more(form, 1));
            refuse(calls, "next " + what, -1, x -> x.next(form));
            refuse(calls, "sway " + what, -1, x -> x.sway(form));
        }
        return calls;
    }

    private static List<Call> refusedOfNew() {
        List<Call> calls = refusedEver();
        for (int box = 0; box < 3; box++) {
            int n = box;
            refuse(calls, "merge " + n, -1, x -> x.merge(n));
            refuse(calls, "back " + n, -1, x -> x.back(n));
        }
        refuse(calls, "undo", 0, x -> is(x.undo()));
        refuse(calls, "redo", 0, x -> is(x.redo()));
        refuse(calls, "end 1", -1, x -> x.end(1));
        refuse(calls, "run 1", -1, x -> x.run(1));
        refuse(calls, "drop 0", -1, x -> x.drop(0));
        refuse(calls, "untell 0", 0, x -> is(x.untell(0)));
        refuse(calls, "seen 1", -1, x -> x.seen(1, false));
        return calls;
    }

    private static List<Call> refusedInUse() {
        List<Call> calls = refusedEver();
        refuse(calls, "run 7, that can't be", -1, x -> x.run(7));
        refuse(calls, "drop 2, that is not in it", -1, x -> x.drop(2));
        refuse(calls, "merge 0", -1, x -> x.merge(0));
        refuse(calls, "merge 2", -1, x -> x.merge(2));
        refuse(calls, "back 0", -1, x -> x.back(0));
        refuse(calls, "back 2", -1, x -> x.back(2));
        refuse(calls, "untell 0 again", 0, x -> is(x.untell(0)));
        refuse(calls, "untell 3", 0, x -> is(x.untell(3)));
        refuse(calls, "end 22", -1, x -> x.end(22));
        return calls;
    }

    private static List<Call> refusedOfFull() {
        List<Call> calls = refusedEver();
        refuse(calls, "redo", 0, x -> is(x.redo()));
        refuse(calls, "later 2", -1, x -> x.later(2));
        refuse(calls, "later 1000", -1, x -> x.later(1000));
        for (int t = 0; t < 8; t++) {
            int n = t;
            refuse(calls, "seen " + n, -1, x -> x.seen(n, n % 2 == 0));
        }
        refuse(calls, "feed", -1, x -> x.feed(0x3B3B3B3B, 0x3B3B3B3B, 0x3B3B3B3B, 0x3B3B3B3B, 0x3B3B3B3B));
        refuse(calls, "feed 0", -1, x -> x.feed(0, 0, 0, 0, 0));
        return calls;
    }

    private static List<Call> refusedOfNothing() {
        List<Call> calls = refusedEver();
        for (int t = 0; t < 3; t++) {
            int n = t;
            refuse(calls, "run " + n, -1, x -> x.run(n));
            refuse(calls, "drop " + n, -1, x -> x.drop(n));
        }
        for (int form = 0; form < 3; form++) {
            int n = form;
            refuse(calls, "next " + n, -1, x -> x.next(n));
        }
        refuse(calls, "ask", -1, x -> x.ask(0, 0));
        refuse(calls, "undo", 0, x -> is(x.undo()));
        refuse(calls, "redo", 0, x -> is(x.redo()));
        return calls;
    }

    /** Calls that only ask, and some that change nothing; their answers are of no interest here. */
    private static List<ToLongFunction<FlipCover>> questions() {
        List<ToLongFunction<FlipCover>> all = new ArrayList<>();
        for (int i = 0; i < 3; i++) {
            int n = i;
            all.add(x -> x.least(n, 1));
            all.add(x -> x.cheapest(n, 0));
            all.add(x -> x.more(n, 1));
            all.add(x -> x.next(n) + x.needless(n) + x.percent(n));
            all.add(x -> x.covered(n) + x.coverable(n) + x.law(n) + x.covers(7, n));
            all.add(x -> x.pair(n, 1, 2, n) + x.partners(n, 3, n) + x.pairs(n, n));
            all.add(x -> x.exchange(n, 0) + x.exchange(1, n) + x.exchange(n, n));
            all.add(x -> x.shows(n) + x.faulty(n, 1) + x.shown(n));
            all.add(x -> x.fits(n * 5) + x.culprit(n, n * 5) + x.ask(1, n * 5));
            all.add(x -> x.fits(-1) + x.culprit(n, Integer.MIN_VALUE) + x.ask(0, Integer.MAX_VALUE));
            all.add(x -> x.sway(n) + x.couple(n, 0) + x.fixed(n));
            all.add(x -> x.test(n, 5) + x.test(n, 4) + x.look(n, 1) + x.odds(n, 1) + x.mean(1));
        }
        all.add(x -> x.killers(1) + x.alive(0) + x.alive(1));
        all.add(x -> x.possible() + x.truths() + x.dead() + x.halves() + x.ways() + x.faulties());
        all.add(x -> x.later(0));
        all.add(x -> x.end(x.about(10)));
        all.add(x -> x.fault(0) + x.fault(1));
        return all;
    }

    private static void compare(String name, State state, List<Call> refused) {
        long[][] want = new long[PROBES][];
        for (int probe = 0; probe < PROBES; probe++) {
            want[probe] = answers(state.make(), probe);
        }
        for (Call call : refused) {
            edge.of(name + ": doing nothing");
            edge.due(call.name, call.on.applyAsLong(state.make()), call.answer);
            for (int probe = 0; probe < PROBES; probe++) {
                FlipCover x = state.make();
                call.on.applyAsLong(x);
                edge.due(call.name + " leaves all as it was, " + probe, Arrays.equals(answers(x, probe), want[probe]), true);
            }
        }
        edge.of(name + ": nothing is done by asking");
        List<ToLongFunction<FlipCover>> questions = questions();
        for (int i = 0; i < questions.size(); i++) {
            for (int probe = 0; probe < PROBES; probe++) {
                FlipCover x = state.make();
                questions.get(i).applyAsLong(x);
                edge.due("question " + i + ", " + probe, Arrays.equals(answers(x, probe), want[probe]), true);
            }
        }
    }

    /** A text with a fault leaves all but the tape, and the fault that is told. */
    private static void faults() {
        String[] texts = {"$", ";", "cond a;cond b;cond c;cond d;goal a;never b;costs 5;loses 50;draw 500;cond e;", "cond a;cond a;",
            "never true;never true;never true;never true;loses 500;", "cond x;goal x and x or y;", "goal true and false",
            "costs 1 + 1 + (", "cond a;goal a;never a", "draw 7;loses 7;x"};
        for (String text : texts) {
            for (int probe = 0; probe < PROBES; probe++) {
                FlipCover x = emptied();
                Bench.put(x, text);
                edge.due("<" + text + "> is read", x.decision(), -1);
                long[] got = answers(x, probe);
                edge.due("<" + text + "> leaves all, " + probe, Arrays.equals(got, answers(emptied(), probe)), true);
            }
        }
    }

    private static FlipCover emptied() {
        FlipCover x = inUse();
        x.end(0);
        return x;
    }

    private static long[] answers(FlipCover x, int probe) {
        List<Long> all = new ArrayList<>();
        switch (probe) {
            case 0:
                ofTests(x, all);
                break;
            case 1:
                ofSets(x, all);
                break;
            case 2:
                ofActs(x, all);
                break;
            default:
                ofSeen(x, all);
                ofTape(x, all);
                break;
        }
        return all.stream().mapToLong(Long::longValue).toArray();
    }

    private static void add(List<Long> all, long answer) {
        all.add(answer);
    }

    private static void ofTests(FlipCover x, List<Long> all) {
        for (int what = 0; what <= 12; what++) {
            add(all, x.about(what));
        }
        for (int t = 0; t < 8; t++) {
            for (int what = 0; what <= 6; what++) {
                add(all, x.test(t, what));
            }
            add(all, x.shown(t));
        }
        for (int look = 0; look < 4; look++) {
            add(all, x.look(look, 0));
            add(all, x.look(look, 1));
            add(all, x.exchange(look, 0));
        }
        for (int f = 0; f < 15; f++) {
            add(all, x.shows(f));
        }
        add(all, x.possible());
        add(all, x.truths());
        add(all, x.dead());
        add(all, x.ways());
        add(all, x.faulties());
        add(all, x.odds(3, 0));
    }

    private static void ofSets(FlipCover x, List<Long> all) {
        for (int form = 0; form < 3; form++) {
            add(all, x.covered(form));
            add(all, x.coverable(form));
            add(all, x.percent(form));
            add(all, x.least(form, 1));
            add(all, x.cheapest(form, 1));
            add(all, x.more(form, 1));
            add(all, x.next(form));
            add(all, x.needless(form));
            add(all, x.law(form));
            for (int cond = 0; cond < 3; cond++) {
                add(all, x.pairs(cond, form));
                add(all, x.partners(cond, 2, form));
            }
        }
        add(all, x.killers(1));
        add(all, x.halves());
        add(all, x.alive(0));
        for (int cond = 0; cond < 3; cond++) {
            add(all, x.sway(cond));
            add(all, x.couple(cond, 0));
            add(all, x.fixed(cond));
        }
    }

    private static void ofActs(FlipCover x, List<Long> all) {
        for (boolean more = true; more;) {
            more = x.undo();
            add(all, x.about(2));
            add(all, x.about(5));
        }
        for (boolean more = true; more;) {
            more = x.redo();
            add(all, x.about(2));
        }
        add(all, x.about(6));
        for (int box = 0; box < 3; box++) {
            add(all, x.merge(box));
        }
        for (int box = 0; box < 3; box++) {
            add(all, x.back(box));
            add(all, x.about(5));
        }
        add(all, x.run(0));
        add(all, x.about(5));
    }

    private static void ofSeen(FlipCover x, List<Long> all) {
        int now = x.about(9);
        for (int k : new int[] {-1, 0, 9, 10, 14, 15, 16, now}) {
            add(all, x.fits(k));
            add(all, x.culprit(1, k));
            add(all, x.ask(0, k));
        }
        for (int seen = 29; seen >= 0; seen -= 3) {
            add(all, is(x.untell(seen)));
            add(all, x.fits(now));
        }
        for (int seen = 0; seen < 30; seen++) {
            add(all, is(x.untell(seen)));
        }
        add(all, x.seen(0, true));
        add(all, x.fits(now));
    }

    private static void ofTape(FlipCover x, List<Long> all) {
        add(all, x.about(10));
        add(all, x.end(x.about(10)));
        add(all, x.decision());
        add(all, x.fault(0));
        add(all, x.fault(1));
        for (int what = 0; what <= 12; what++) {
            add(all, x.about(what));
        }
        add(all, x.truths());
    }
}
