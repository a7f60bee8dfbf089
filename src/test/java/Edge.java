/** What the tests of edges share: answers are told under the sentence of the document that they stand for. */
final class Edge {
    /** Numbers far from all that is taken. */
    static final int[] FAR = {Integer.MIN_VALUE, Integer.MIN_VALUE + 1, -100001, -65536, -1000, -17, -2, 100002, 0x7FFF0000,
        Integer.MAX_VALUE - 1, Integer.MAX_VALUE};
    static final String[] NAMES = {"a", "b", "c", "d", "e"};

    private final Bench bench = new Bench();
    private String sentence = "";

    /** Tells the sentence that the answers behind it stand for. */
    void of(String newSentence) {
        sentence = newSentence;
    }

    void due(String call, long got, long want) {
        bench.due(sentence + " -- " + call, got, want);
    }

    void due(String call, boolean got, boolean want) {
        bench.due(sentence + " -- " + call, got, want);
    }

    /** Compares a text's fault and its place, and whether decision() tells that there is one. */
    void fault(String text, int sort, int place) {
        FlipCover x = new FlipCover();
        Bench.put(x, text);
        String call = text.length() < 300 ? "<" + text + ">" : "<" + text.substring(0, 300) + " ..>";
        due(call + " is read", x.decision() == FlipCover.NONE, sort != 0);
        due(call + " fault", x.fault(0), sort);
        due(call + " place", x.fault(1), place);
    }

    void fine(String text) {
        fault(text, 0, -1);
    }

    void end(String name) {
        bench.end(name);
    }

    /** Lines that tell so many conditions a, b, .. */
    static String conds(int n) {
        StringBuilder text = new StringBuilder();
        for (int i = 0; i < n; i++) {
            text.append("cond ").append(NAMES[i]).append(';');
        }
        return text.toString();
    }

    /** A row of what stands alternately ahead of what is within it: bit i of a pattern is not, or else ( ). */
    static String nested(int pattern, int levels, String inner) {
        StringBuilder ahead = new StringBuilder();
        StringBuilder behind = new StringBuilder();
        for (int i = 0; i < levels; i++) {
            boolean isNot = (pattern >> i & 1) == 1;
            ahead.append(isNot ? "not " : "(");
            behind.append(isNot ? "" : ")");
        }
        return ahead + inner + behind;
    }
}
