/** What the tests share: texts fed to an object, and answers that are compared. */
final class Bench {
    private int wrong = 0;
    private int compared = 0;

    /** Compares an answer with the one that is due. */
    void due(String call, long got, long want) {
        compared++;
        if (got != want) {
            wrong++;
            if (wrong <= 50) {
                System.out.println(call + " answered " + got + ", due is " + want);
            }
        }
    }

    void due(String call, boolean got, boolean want) {
        due(call, got ? 1 : 0, want ? 1 : 0);
    }

    /** Ends the program, with exit code 1 if an answer was wrong. */
    void end(String name) {
        System.out.println(name + ": " + compared + " answers, " + wrong + " wrong");
        if (wrong != 0 || compared == 0) {
            System.exit(1);
        }
    }

    int wrong() {
        return wrong;
    }

    /** Puts a text on an object's empty tape. */
    static void put(FlipCover cover, String text) {
        for (int at = 0; at < text.length(); at += 20) {
            cover.feed(four(text, at), four(text, at + 4), four(text, at + 8), four(text, at + 12), four(text, at + 16));
        }
        cover.end(text.length());
    }

    /** A new object that has a text as its decision. */
    static FlipCover of(String text) {
        FlipCover cover = new FlipCover();
        put(cover, text);
        cover.decision();
        return cover;
    }

    /** Four bytes of a text as an int, blanks behind its end. */
    static int four(String text, int at) {
        int four = 0;
        for (int i = at; i < at + 4; i++) {
            four = four << 8 | (i < text.length() ? text.charAt(i) : ' ');
        }
        return four;
    }
}
