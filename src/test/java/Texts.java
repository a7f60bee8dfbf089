import java.util.ArrayList;
import java.util.List;

/** Makes texts of decisions, and spoils them; the same number always makes the same texts. */
final class Texts {
    private static final String[] NAMES = {"a", "b", "c", "d", "orx", "abcdefgh", "nota", "z"};
    private static final String[] SCRAPS = {"cond", "goal", "never", "costs", "loses", "draw", "or", "and", "not", "true",
        "false", "number", "ones", "looks", "comes", "a", "b", "zz", ";", "(", ")", "<", ">", "=", "+", "-", "*", "/", "%",
        "0", "7", "100", "101", "999", "1000", "9999", "12345", "3x", "abcdefghi", "A", "_", "\t", "not not not",
        "((((((((", "\u00e9", "", "\u0000"};

    private long state;
    private int operands;
    private int units;

    Texts(long number) {
        state = number * 7919 + 17;
    }

    /** A number below a bound. */
    int pick(int bound) {
        state = state * 6364136223846793005L + 1442695040888963407L;
        return (int) ((state >>> 33) % bound);
    }

    private boolean chance(int ofTen) {
        return pick(10) < ofTen;
    }

    /** A text of this many conditions that keeps to the grammar (nearly always to its limits, too). */
    List<String> tokens(int conditions) {
        List<String> all = new ArrayList<>();
        List<String> told = new ArrayList<>();
        int late = chance(2) ? pick(conditions + 1) : 0;
        for (int i = 0; i < conditions - late; i++) {
            addCondition(all, told);
        }
        int nevers = chance(4) ? 0 : pick(4) + (chance(1) ? 1 : 0);
        if (chance(9)) {
            addGoal(all, told);
        }
        for (int i = 0; i < nevers; i++) {
            all.add("never");
            operands = 1 + pick(chance(1) ? 10 : 4);
            addNever(all, told);
            all.add(";");
        }
        for (int i = 0; i < late; i++) {
            addCondition(all, told);
        }
        if (chance(6)) {
            all.add("costs");
            units = 1 + pick(chance(2) ? 30 : 7);
            addEither(all, 0);
            all.add(";");
        }
        if (chance(6)) {
            all.addAll(List.of("loses", "" + pick(chance(1) ? 101 : 60), ";"));
        }
        if (chance(6)) {
            all.addAll(List.of("draw", "" + pick(1000), ";"));
        }
        return all;
    }

    private void addCondition(List<String> all, List<String> told) {
        String name = NAMES[(told.size() + pick(2) * 4) % NAMES.length];
        all.addAll(List.of("cond", name, ";"));
        told.add(name);
    }

    private void addGoal(List<String> all, List<String> told) {
        all.add("goal");
        operands = 1 + pick(10);
        addAny(all, told, 0);
        all.add(";");
    }

    private void addNever(List<String> all, List<String> told) {
        if (chance(7)) {
            // one row of conditions, so that most tests still can be
            for (int i = 0; i < 2 + pick(2); i++) {
                all.addAll(i == 0 ? List.of() : List.of("and"));
                all.addAll(chance(5) ? List.of("not") : List.of());
                all.add(told.isEmpty() ? "false" : told.get(pick(told.size())));
            }
        } else {
            addAny(all, told, 0);
        }
    }

    private void addAny(List<String> all, List<String> told, int within) {
        addAll(all, told, within);
        while (operands > 0 && chance(within == 0 ? 8 : 4)) {
            all.add("or");
            addAll(all, told, within);
        }
    }

    private void addAll(List<String> all, List<String> told, int within) {
        addOwn(all, told, within);
        while (operands > 0 && chance(within == 0 ? 6 : 4)) {
            all.add("and");
            addOwn(all, told, within);
        }
    }

    private void addOwn(List<String> all, List<String> told, int within) {
        if (within < 7 && chance(3)) {
            all.add("not");
            addOwn(all, told, within + 1);
        } else if (within < 7 && operands > 1 && chance(5)) {
            all.add("(");
            addAny(all, told, within + 1);
            all.add(")");
        } else {
            operands--;
            boolean plain = told.isEmpty() || pick(20) == 0;
            all.add(plain ? chance(5) ? "true" : "false" : told.get(pick(told.size())));
        }
    }

    private void addEither(List<String> all, int within) {
        addBoth(all, within);
        while (units > 0 && chance(2)) {
            all.add("or");
            addBoth(all, within);
        }
    }

    private void addBoth(List<String> all, int within) {
        addOne(all, within);
        while (units > 0 && chance(2)) {
            all.add("and");
            addOne(all, within);
        }
    }

    private void addOne(List<String> all, int within) {
        if (within < 7 && chance(2)) {
            all.add("not");
            addOne(all, within + 1);
            return;
        }
        addSum(all, within);
        if (units > 0 && chance(3)) {
            all.add(chance(3) ? "<" : chance(5) ? ">" : "=");
            addSum(all, within);
        }
    }

    private void addSum(List<String> all, int within) {
        addTerm(all, within);
        while (units > 0 && chance(5)) {
            all.add(chance(6) ? "+" : "-");
            addTerm(all, within);
        }
    }

    private void addTerm(List<String> all, int within) {
        addUnit(all, within);
        while (units > 0 && chance(5)) {
            all.add(chance(5) ? "*" : chance(5) ? "/" : "%");
            addUnit(all, within);
        }
    }

    private void addUnit(List<String> all, int within) {
        units--;
        if (within < 7 && units > 0 && chance(3)) {
            all.add("(");
            addEither(all, within + 1);
            all.add(")");
            return;
        }
        String[] plain = {"number", "ones", "looks", "comes", "" + pick(10), "" + pick(chance(1) ? 10000 : 30)};
        all.add(plain[pick(plain.length)]);
    }

    /** Spoils a row of tokens in a place or two. */
    void spoil(List<String> all) {
        for (int n = 0; n < 1 + pick(2); n++) {
            int at = pick(all.size() + 1);
            switch (pick(4)) {
                case 0:
                    all.add(at, SCRAPS[pick(SCRAPS.length)]);
                    break;
                case 1:
                    if (at < all.size()) {
                        all.set(at, SCRAPS[pick(SCRAPS.length)]);
                    }
                    break;
                case 2:
                    if (at < all.size()) {
                        all.remove(at);
                    }
                    break;
                default:
                    if (at < all.size()) {
                        all.add(at, all.get(pick(all.size())));
                    }
                    break;
            }
        }
    }

    /** Joins tokens by blanks, now and then by none. */
    String joined(List<String> all) {
        StringBuilder text = new StringBuilder();
        boolean dense = chance(3);
        for (String token : all) {
            boolean needed = text.length() > 0 && isWordy(text.charAt(text.length() - 1)) && !token.isEmpty()
                && isWordy(token.charAt(0));
            if (needed && !(dense && pick(30) == 0) || !dense && chance(8)) {
                text.append(chance(1) ? "\n" : chance(1) ? "  " : " ");
            }
            text.append(token);
        }
        return text.toString();
    }

    private static boolean isWordy(char sign) {
        return sign >= 'a' && sign <= 'z' || sign >= '0' && sign <= '9';
    }
}
