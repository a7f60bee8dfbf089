/** Edges of part 1 of the Terms and of promises 1 to 5: the tape, tokens, lines, how many of each, faults. */
public final class EdgeTextTest {
    private static final Edge edge = new Edge();
    private static final String[] WORDS = ("cond goal never costs loses draw or and not true false number ones looks "
        + "comes").split(" ");
    private static final String BLANKS = " ".repeat(1600);

    public static void main(String[] args) {
        atFirst();
        feedToTheEnd();
        whatFeedBrings();
        endOfTheTape();
        longestText();
        decisionEmptiesTheTape();
        everyByte();
        longestWord();
        longestNumber();
        letterBehindANumber();
        partedOrNot();
        wordsOfTheirOwn();
        conditions();
        onceEach();
        nevers();
        losesAndDraw();
        namesOfOneB();
        unitsOfE();
        withinOthers();
        withinOthersAgain();
        toldAhead();
        firstByPlace();
        leastAtOnePlace();
        placeOfTheEnd();
        ofTheLatestDecision();
        edge.end("EdgeTextTest");
    }

    private static void due(String call, long got, long want) {
        edge.due(call, got, want);
    }

    private static int feed(FlipCover x, int sign) {
        int four = sign << 24 | sign << 16 | sign << 8 | sign;
        return x.feed(four, four, four, four, four);
    }

    /** A tape of so many bytes, the last ones being these. */
    private static FlipCover tape(int length, String last) {
        FlipCover x = new FlipCover();
        Bench.put(x, BLANKS.substring(0, length - last.length()) + last);
        return x;
    }

    private static void atFirst() {
        edge.of("1: An empty DECISION; empty at first");
        FlipCover x = new FlipCover();
        due("bytes", x.about(10), 0);
        due("nothing to cut", x.end(0), 0);
        due("nothing is there", x.end(1), -1);
        due("conditions", x.about(0), 0);
        due("looks", x.about(1), 0);
        due("goal", x.truths(), 0);
        due("test 0", x.test(0, 1), 1);
        due("no test 1", x.test(1, 1), -1);
        due("read as it is", x.decision(), 0);
        due("without a fault", x.fault(0), 0);
        edge.of("1: {line}: none, too");
        edge.fine("");
        edge.fine(" ");
        edge.fine("\n");
        edge.fine(BLANKS);
        edge.fine(BLANKS.replace(' ', '\n'));
    }

    private static void feedToTheEnd() {
        edge.of("2: NONE, and nothing comes, if there would be more than 1,600");
        for (int length = 0; length <= 1600; length++) {
            FlipCover x = tape(length, "");
            boolean taken = length + 20 <= 1600;
            due("feed behind " + length, feed(x, ' '), taken ? length + 20 : -1);
            due("bytes behind " + length, x.about(10), taken ? length + 20 : length);
        }
        for (int length = 1581; length <= 1600; length++) {
            FlipCover x = tape(length, "cond a;");
            feed(x, '$');
            feed(x, ';');
            due("nothing came behind " + length, x.about(10), length);
            due("none of those there went, " + length, x.decision(), 1);
            x = tape(length, "cond a");
            feed(x, ';');
            x.decision();
            due("it ends where it did, " + length, x.fault(1), length);
        }
        FlipCover x = tape(1580, "cond a;");
        due("the last twenty", feed(x, '$'), 1600);
        due("they came", x.decision(), -1);
        due("behind the others", x.fault(1), 1580);
    }

    private static void whatFeedBrings() {
        edge.of("2: Twenty bytes, of each number the highest first");
        for (int i = 0; i < 20; i++) {
            for (int ahead = 0; ahead <= 40; ahead += 20) {
                int[] n = {0x20202020, 0x20202020, 0x20202020, 0x20202020, 0x20202020};
                n[i / 4] ^= (' ' ^ ';') << 24 - i % 4 * 8;
                FlipCover x = tape(ahead, "");
                x.feed(n[0], n[1], n[2], n[3], n[4]);
                x.decision();
                due("byte " + i + " behind " + ahead, x.fault(1), ahead + i);
            }
        }
        // the highest bit of a number and of a byte
        FlipCover x = new FlipCover();
        x.feed(0x20202020, 0x20202020, 0x20202080, 0x20202020, 0x20202020);
        x.decision();
        due("128", x.fault(1), 11);
        x.feed(0x20202020, 0x8020203B, 0x20202020, 0x20202020, 0x20202020);
        x.decision();
        due("128, the highest", x.fault(1), 4);
    }

    private static void endOfTheTape() {
        edge.of("3: NONE, doing nothing, if it has not so many, or n is below 0");
        for (int length : new int[] {0, 1, 19, 20, 21, 1599, 1600}) {
            FlipCover x = tape(length, "");
            due("-1 of " + length, x.end(-1), -1);
            due("one more than " + length, x.end(length + 1), -1);
            for (int far : Edge.FAR) {
                due(far + " of " + length, x.end(far), -1);
            }
            due("1601 of " + length, x.end(1601), -1);
            due("nothing done, " + length, x.about(10), length);
            due("all of " + length, x.end(length), length);
            due("all stay, " + length, x.about(10), length);
            if (length > 0) {
                due("one less than " + length, x.end(length - 1), length - 1);
                due("one went, " + length, x.about(10), length - 1);
                due("it does not come back, " + length, x.end(length), -1);
            }
            due("none of " + length, x.end(0), 0);
            due("none is there, " + length, x.about(10), 0);
        }
        edge.of("3: The TAPE has its first n bytes");
        String text = "cond a;cond b;cond c;";
        for (int n = 0; n <= text.length(); n++) {
            FlipCover x = new FlipCover();
            Bench.put(x, text);
            x.end(n);
            due(n + " of 21", x.decision(), n % 7 == 0 ? n / 7 : -1);
        }
        FlipCover x = new FlipCover();
        Bench.put(x, text);
        x.end(22);
        x.end(-1);
        due("a cut that is refused cuts nothing", x.decision(), 3);
    }

    private static void longestText() {
        edge.of("1: at most 1,600 bytes");
        for (int length = 1595; length <= 1600; length++) {
            FlipCover x = tape(length, ";cond zz;".substring(1));
            due("the last byte of " + length, x.decision(), 1);
            x = tape(length, "$");
            due("no token at the last of " + length, x.decision(), -1);
            due("its fault, " + length, x.fault(0), 1);
            due("its place, " + length, x.fault(1), length - 1);
            x = tape(length, "loses 100");
            x.decision();
            due("the end behind " + length, x.fault(1), length);
        }
        // as many tokens as there can be
        edge.fault(";".repeat(1600), 2, 0);
        edge.fault("(".repeat(1600), 2, 0);
        edge.fault("9".repeat(1600), 1, 0);
        edge.fault("z".repeat(1600), 1, 0);
        edge.fault("cond a;" + "(".repeat(1593), 2, 7);
        edge.fault("cond a;goal " + "(".repeat(1588), 2, 19);
    }

    private static void decisionEmptiesTheTape() {
        edge.of("4: The TAPE (empty then); empty then, too");
        for (String text : new String[] {"cond a;cond b;", "cond a;cond a;"}) {
            FlipCover x = new FlipCover();
            Bench.put(x, text);
            x.decision();
            due("<" + text + "> bytes", x.about(10), 0);
            due("<" + text + "> nothing to keep", x.end(1), -1);
            due("<" + text + "> again", x.decision(), 0);
            due("<" + text + "> again, without a fault", x.fault(0), 0);
            Bench.put(x, "cond c;");
            due("<" + text + "> a new one", x.decision(), 1);
        }
        FlipCover x = tape(1600, "$");
        x.decision();
        due("a full one, too", feed(x, ' '), 20);
    }

    private static void everyByte() {
        edge.of("1: TOKENS: words (a .. z), N, signs; blanks (32, 10)");
        for (int b = 0; b < 256; b++) {
            boolean isBlank = b == 32 || b == 10;
            boolean isLetter = b >= 97 && b <= 122;
            boolean isDigit = b >= 48 && b <= 57;
            boolean isSign = b == 59 || b == 40 || b == 41 || b == 60 || b == 62 || b == 61 || b == 43 || b == 45 || b == 42
                || b == 47 || b == 37;
            boolean isToken = isLetter || isDigit || isSign;
            char sign = (char) b;
            edge.fault("" + sign, isBlank ? 0 : isToken ? 2 : 1, isBlank ? -1 : 0);
            edge.fault("cond a;\n " + sign, isBlank ? 0 : isToken ? 2 : 1, isBlank ? -1 : 9);
            boolean longer = isBlank || isLetter;
            edge.fault("cond a" + sign + ";", longer ? 0 : isToken ? 2 : 1, longer ? -1 : b == 59 ? 7 : 6);
            if (isBlank || isDigit) {
                edge.fine("draw 7" + sign + ";");
            } else {
                edge.fault("draw 7" + sign + ";", isToken && !isLetter ? 2 : 1, isLetter ? 5 : b == 59 ? 7 : 6);
            }
            edge.fault("cond" + sign + ";", isLetter || isToken || isBlank ? 2 : 1, isLetter ? 0 : isBlank ? 5 : 4);
        }
    }

    private static void longestWord() {
        edge.of("1: words (a .. z, 8 at most)");
        for (int length = 1; length <= 8; length++) {
            String name = "zyxwvuts".substring(0, length);
            edge.fine("cond " + name + ";goal " + name + ";never not " + name + ";");
            edge.fault(name + ";", 2, 0);
        }
        for (int length : new int[] {9, 10, 11, 12, 13, 14, 16, 17, 32, 40, 64, 128, 256, 1500}) {
            String word = "zyxwvutsrq".repeat(150).substring(0, length);
            edge.fault("cond " + word + ";", 1, 5);
            edge.fault("cond a;goal not(" + word + ");", 1, 16);
            edge.fault(word + " a;", 1, 0);
            edge.fault("costs " + word + ";", 1, 6);
        }
        // a word too long whose first or last letters are a word
        edge.fault("cond a;goal a and nottrueor;", 1, 18);
        edge.fault("aaaacond a;", 2, 0);
        edge.fault("aaaaacond a;", 1, 0);
        edge.fault("a".repeat(12) + "cond x;", 1, 0);
        FlipCover x = Bench.of("cond abcdefgh;cond abcdefgi;cond bbcdefgh;cond abcdefg;goal abcdefgi;");
        due("names unlike in one letter of eight", x.truths(), 0xCCCC);
        for (char letter = 'a'; letter <= 'z'; letter++) {
            x = Bench.of("cond " + letter + ";cond " + letter + letter + ";goal " + letter + letter + ";");
            due("letter " + letter, x.truths(), 12);
        }
    }

    private static void longestNumber() {
        edge.of("1: N (1 to 4 digits)");
        for (String number : new String[] {"0", "1", "00", "07", "99", "007", "100", "0000", "0007", "0100"}) {
            FlipCover x = Bench.of("costs " + number + ";loses " + number + ";draw " + number + ";");
            int value = Integer.parseInt(number);
            due(number + " told", x.fault(0), 0);
            due(number + " as a cost", x.test(0, 4), Math.min(99, value));
            due(number + " as loses", x.about(12), value);
            due(number + " as draw", x.about(5), value);
        }
        due("9999", Bench.of("costs 9999 - 9900;").test(0, 4), 99);
        due("9999, not 9998", Bench.of("costs 9999 - 9990;").test(0, 4), 9);
        for (String number : new String[] {"00000", "00001", "10000", "99999", "000000", "123456789", "4294967296"}) {
            edge.fault("costs " + number + ";", 1, 6);
            edge.fault("loses " + number + ";", 1, 6);
            edge.fault("draw " + number + ";", 1, 5);
            edge.fault(number, 1, 0);
        }
        for (char digit = '0'; digit <= '9'; digit++) {
            due("digit " + digit, Bench.of("costs " + digit + ";").test(0, 4), digit - '0');
        }
    }

    private static void letterBehindANumber() {
        edge.of("1: no letter directly behind an N; an N with a letter behind it, its first byte");
        for (char letter = 'a'; letter <= 'z'; letter++) {
            for (int length = 1; length <= 5; length++) {
                String number = "12345".substring(0, length);
                edge.fault("costs " + number + letter + ";", 1, 6);
            }
            edge.fine("cond " + letter + ";costs 1 +ones;");
            edge.fault("cond " + letter + "1;", 2, 6);
        }
        edge.fault("costs 1or 2;", 1, 6);
        edge.fine("costs 1 or2;");
        edge.fault("cond a1;", 2, 6);
        edge.fine("costs 1 or 2;");
        edge.fine("costs 1 or\n2;");
        edge.fine("costs(1)or(2);");
        edge.fine("costs 1\nor 2;");
        edge.fault("costs 1\nor 2x;", 1, 11);
        edge.fault("loses 5loses 5;", 1, 6);
        edge.fault("loses 5 loses 5;", 2, 8);
        edge.fault("loses 5;draw 5x;", 1, 13);
        edge.fault("loses 5;draw 5;x", 2, 15);
    }

    private static void partedOrNot() {
        edge.of("1: blanks part them or not; each is as long as can be");
        edge.fine("cond a;cond b;goal(a)or(b)and(not(a)or(b));never(a)and(b);costs(1)+(2)*(3)-(4)/(5)%(6)<(7);loses 1;draw 1;");
        edge.fine(" cond\na ;\n\ncond b\n;goal ( a ) or\n( b ) ; costs 1+ 2 *3\n- 4 / 5%6 =7 ;loses\n1 ;draw  1; ");
        edge.fine("costs 1>2;");
        edge.fine("costs(ones)<looks and comes=number or not ones>1;");
        edge.fault("conda;", 2, 0);
        edge.fault("cond a;goala;", 2, 7);
        edge.fault("cond a;cond b;goal a orb;", 2, 21);
        edge.fault("cond a;cond b;goal aor b;", 5, 19);
        edge.fault("cond a;goal nota;", 5, 12);
        edge.fault("cond a;goal a b;", 2, 14);
        edge.fault("cond a b;", 2, 7);
        edge.fault("loses 1 0;", 2, 8);
        edge.fault("lo ses 1;", 2, 0);
        edge.fault("costs 1 2;", 2, 8);
        edge.fault("costs 1 < = 2;", 2, 10);
        edge.fault("costs 1<=2;", 2, 8);
        due("10, not 1 and 0", Bench.of("loses 10;").about(12), 10);
        due("a name as long as can be", Bench.of("cond a;cond ab;cond b;goal ab;").truths(), 0xCC);
    }

    private static void wordsOfTheirOwn() {
        edge.of("1: Words that stand for themselves here are no NAMES");
        for (String word : WORDS) {
            edge.fault("cond " + word + ";", 2, 5);
            edge.fault("cond a;cond b;cond " + word + ";", 2, 19);
            if (!word.equals("true") && !word.equals("false")) {
                edge.fault("cond a;goal " + word + ";", 2, word.equals("not") ? 15 : 12);
                edge.fault("cond a;never a and " + word + ";", 2, word.equals("not") ? 22 : 19);
            }
            if (!word.equals("not") && !"number ones looks comes".contains(word)) {
                edge.fault("costs " + word + ";", 2, 6);
            }
            // one letter more or less, or another one, is a name
            String[] others = {word + "x", "x" + word, word.substring(1), word.substring(0, word.length() - 1),
                word.substring(0, word.length() - 1) + "q", "q" + word.substring(1), word + word.charAt(0)};
            for (String other : others) {
                edge.fine("cond " + other + ";goal not " + other + ";");
            }
        }
        edge.fault("cond a;costs a;", 2, 13);
        edge.fault("cond x;costs 1 + x;", 2, 17);
    }

    private static void conditions() {
        edge.of("1: At most 4 CONDITIONS, numbered as told");
        int[] columns = {0xAAAA, 0xCCCC, 0xF0F0, 0xFF00};
        for (int n = 0; n <= 4; n++) {
            FlipCover x = new FlipCover();
            Bench.put(x, Edge.conds(n));
            due(n + " told", x.decision(), n);
            due(n + " about", x.about(0), n);
            for (int i = 0; i < n; i++) {
                x = Bench.of(Edge.conds(n) + "goal " + Edge.NAMES[i] + ";");
                due("number of " + i + " of " + n, x.look(0, 0), i);
                due("tests of " + i + " of " + n, x.truths(), columns[i] & (1 << (1 << n)) - 1);
            }
        }
        edge.of("1: one of a sort too many: at the line's first word");
        edge.fault(Edge.conds(5), 2, 28);
        edge.fault(Edge.conds(4) + " cond a;", 2, 29);
        edge.fault(Edge.conds(4) + "\n\ncond", 2, 30);
        edge.fault(Edge.conds(4) + "cond true;", 2, 28);
        edge.fault(Edge.conds(4) + "cond 5x;", 2, 28);
        edge.fault(Edge.conds(2) + "goal a;" + "cond c;cond d;never d;cond e;", 2, 43);
        edge.fault(Edge.conds(4) + "goal e;", 5, 33);
        edge.fine(Edge.conds(4) + "goal d;");
    }

    private static void onceEach() {
        edge.of("1: goal, costs, loses, draw once each; a second time: at the line's first word");
        String[] lines = {"goal true;", "costs 1;", "loses 1;", "draw 1;"};
        for (String line : lines) {
            edge.fine(line);
            edge.fault(line + line, 2, line.length());
            edge.fault(line + "  " + line, 2, line.length() + 2);
            String word = line.substring(0, line.indexOf(' '));
            edge.fault(line + word + ";", 2, line.length());
            edge.fault(line + word + " $;", 2, line.length());
            edge.fault(line + word, 2, line.length());
            edge.fault(line + word + " 9999;", 2, line.length());
            for (String other : lines) {
                if (!other.equals(line)) {
                    edge.fine(line + other);
                    edge.fault(line + other + line, 2, line.length() + other.length());
                    edge.fault(line + other + other, 2, line.length() + other.length());
                }
            }
        }
        edge.fine("draw 1;loses 1;costs 1;goal true;never true;cond a;");
        edge.of("1: goal, costs, loses (0), draw (0): not told");
        FlipCover x = Bench.of("cond a;never a;");
        due("goal", x.truths(), 0);
        due("looks", x.about(1), 0);
        due("and, or", x.about(4), 0);
        due("costs", x.test(1, 4), 1);
        due("units", x.about(11), 0);
        due("loses", x.about(12), 0);
        due("draw", x.about(5), 0);
        // each sort again in a text that is new
        String all = "cond a;goal a;costs 1;loses 1;draw 1;never a;never a;never a;never a;";
        x = Bench.of(all);
        for (int n = 0; n < 3; n++) {
            Bench.put(x, all);
            due("the next text", x.decision(), 1);
            Bench.put(x, all + all);
            due("twice", x.decision(), -1);
        }
    }

    private static void nevers() {
        edge.of("1: never at most 4 times");
        for (int n = 0; n <= 4; n++) {
            FlipCover x = Bench.of("cond a;" + "never a;".repeat(n));
            due(n + " times", x.about(3), n);
            due(n + " times, can be", x.possible(), n == 0 ? 3 : 1);
        }
        edge.fault("never true;".repeat(5), 2, 44);
        edge.fault("never true;".repeat(4) + "\nnever", 2, 45);
        edge.fault("never true;".repeat(4) + "goal true;never $", 2, 54);
        edge.fault("never true;".repeat(4) + "never x;", 2, 44);
        for (int last = 0; last < 4; last++) {
            String text = Edge.conds(2);
            for (int i = 0; i < 4; i++) {
                text += i == last ? "never a and b;" : "never false;";
            }
            due("each of four counts, " + last, Bench.of(text).possible(), 7);
        }
    }

    private static void losesAndDraw() {
        edge.of("1: loses (0 .. 100 of 100)");
        for (int n = 0; n <= 100; n++) {
            FlipCover x = Bench.of("loses " + n + ";");
            due("loses " + n, x.about(12), n);
        }
        edge.of("1: 4 a number that can't be");
        for (int n = 101; n <= 9999; n += n < 300 ? 1 : 97) {
            edge.fault("loses " + n + ";", 4, 6);
        }
        edge.fault("loses 9999", 4, 6);
        edge.fault("loses\n\n 0101 $", 4, 8);
        edge.fine("loses 0100;");
        edge.of("1: draw (0 .. 999)");
        for (int n = 0; n <= 999; n++) {
            FlipCover x = Bench.of("draw " + n + ";");
            due("draw " + n, x.about(5), n);
        }
        edge.of("1: 4 a number that can't be");
        for (int n = 1000; n <= 9999; n += n < 1100 ? 1 : 97) {
            edge.fault("draw " + n + ";", 4, 5);
        }
        edge.fault("draw 9999", 4, 5);
        edge.fine("draw 0999;");
        edge.fine("costs 9999;");
    }

    private static void namesOfOneB() {
        edge.of("1: in one b at most 10 NAMES, true, false together; the eleventh NAME, true, false of one b: there");
        for (String line : new String[] {"goal ", "never "}) {
            for (String link : new String[] {" and ", " or "}) {
                String ten = "cond a;" + line + "a" + (link + "true").repeat(4) + (link + "false").repeat(4) + link + "a";
                edge.fine(ten + ";");
                for (String last : new String[] {"a", "true", "false", "x", "abcdefgh"}) {
                    edge.fault(ten + link + last + ";", 2, ten.length() + link.length());
                    edge.fault(ten + link + "not " + last + ";", 2, ten.length() + link.length() + 4);
                    edge.fault(ten + link + "(((" + last + ")));", 2, ten.length() + link.length() + 3);
                }
                edge.fault(ten + link + ";", 2, ten.length() + link.length());
                edge.fault(ten + link + "abcdefghi;", 1, ten.length() + link.length());
                edge.fault(ten + link + "$;", 1, ten.length() + link.length());
            }
        }
        String spread = "goal (true and true and true) or not (true or (true and (true or true))) and true and true and true";
        edge.fine(spread + ";");
        edge.fault(spread + " or false;", 2, spread.length() + 4);
        // ten in each of five
        String ten = "true" + " and true".repeat(9) + ";";
        edge.fine("goal " + ten + ("never " + ten).repeat(4));
        edge.fine(("never " + ten).repeat(4) + "goal " + ten);
        FlipCover x = Bench.of("goal " + ten);
        due("looks", x.about(1), 10);
        due("and, or", x.about(4), 9);
        due("the last look", x.look(9, 0), -1);
        due("no eleventh", x.look(10, 0), -2);
        due("looked at", x.test(0, 2), 1023);
    }

    private static void unitsOfE() {
        edge.of("1: 30 units in e; a unit too many: at its first TOKEN");
        for (String unit : new String[] {"1", "9999", "number", "ones", "looks", "comes"}) {
            for (String link : new String[] {" + ", " - ", " * ", " / ", " % ", " and ", " or "}) {
                String thirty = "costs " + unit + (link + unit).repeat(29);
                edge.fine(thirty + ";");
                edge.fault(thirty + link + unit + ";", 2, thirty.length() + link.length());
                edge.fault(thirty + link + "(" + unit + ");", 2, thirty.length() + link.length());
                edge.fault(thirty + link + "$;", 1, thirty.length() + link.length());
                due("units", Bench.of(thirty + ";").about(11), 30);
            }
        }
        String thirty = "costs 1" + "+1".repeat(29);
        edge.fault(thirty + "<1;", 2, 66);
        edge.fault(thirty + " and not not 1;", 2, 78);
        edge.fault(thirty + "+", 2, 66);
        edge.of("1: a unit ( e ) is one, what is within it are others");
        for (int n = 0; n <= 28; n++) {
            String ahead = "costs 1" + "+1".repeat(n);
            int left = 29 - n;
            String inner = "(1" + "+1".repeat(Math.max(0, left - 2)) + ")";
            edge.fine(left < 2 ? ahead + ";" : ahead + "+" + inner + ";");
            edge.fault(ahead + "+" + inner + "+1;", 2, left < 2 ? ahead.length() + 2 : ahead.length() + 1 + inner.length() + 1);
        }
        edge.fine("costs ((1)+(1))*" + "(1)+".repeat(12) + "1;");
        edge.fault("costs ((1)+(1))*" + "(1)+".repeat(12) + "1+1;", 2, 66);
        due("units", Bench.of("costs ((1)+(1))*" + "(1)+".repeat(12) + "1;").about(11), 30);
        due("none", Bench.of("cond a;").about(11), 0);
        due("one", Bench.of("costs not not 1;").about(11), 1);
        due("what thirty come to", Bench.of("costs 3" + "+3".repeat(29) + ";").test(0, 4), 90);
    }

    private static void withinOthers() {
        edge.of("1: one behind not, in ( ) within 6 others at most; what is within 7 others: at its first TOKEN, or the not");
        for (String line : new String[] {"goal ", "never ", "costs "}) {
            String inner = line.equals("costs ") ? "1" : "true";
            for (int levels = 0; levels <= 7; levels++) {
                for (int pattern = 0; pattern < 1 << levels; pattern++) {
                    String text = line + Edge.nested(pattern, levels, inner) + ";";
                    edge.fine(text);
                    int is = 1 - Integer.bitCount(pattern) % 2;
                    FlipCover x = Bench.of(text);
                    due("<" + text + "> is", line.equals("goal ") ? x.truths() : line.equals("never ") ? 1 - x.possible()
                        : x.test(0, 4), is);
                }
            }
            for (int pattern = 0; pattern < 512; pattern++) {
                int place = line.length();
                for (int i = 0; i < 7; i++) {
                    place += (pattern >> i & 1) == 1 ? 4 : 1;
                }
                edge.fault(line + Edge.nested(pattern, 8, inner) + ";", 2, place);
                edge.fault(line + Edge.nested(pattern, 9, inner) + ";", 2, place);
                edge.fault(line + Edge.nested(pattern, 7, "$") + ";", 1, place);
            }
        }
    }

    private static void withinOthersAgain() {
        edge.of("1: within 6 others at most: what has ended is not around what comes behind it");
        String b = Edge.nested(0, 7, "true");
        String not = Edge.nested(127, 7, "true");
        edge.fine("goal " + b + " and " + b + " or " + not + " and " + not + ";never " + b + " or " + not + ";");
        edge.fine("goal " + not + " or " + Edge.nested(0x55, 7, "true or true and true") + ";");
        edge.fault("goal " + b + " and " + Edge.nested(0, 8, "true") + ";", 2, 5 + 18 + 5 + 7);
        edge.fault("goal " + Edge.nested(0, 7, "true and not true") + ";", 2, 5 + 7 + 9);
        edge.fault("goal " + Edge.nested(0, 6, "true and not (true)") + ";", 2, 5 + 6 + 13);
        edge.fine("goal " + Edge.nested(0, 6, "true and not true and (true)") + ";");
        String e = Edge.nested(0, 7, "1");
        edge.fine("costs " + e + "+" + e + "*" + e + ";");
        edge.fault("costs " + e + "+" + Edge.nested(0, 8, "1") + ";", 2, 6 + 15 + 1 + 7);
        edge.of("1: a relation behind not is within it, on both sides");
        edge.fine("costs " + Edge.nested(63, 6, "(1) < (1)") + ";");
        edge.fault("costs " + Edge.nested(127, 7, "1 < (1)") + ";", 2, 6 + 28 + 4);
        edge.fault("costs " + Edge.nested(127, 7, "(1) < 1") + ";", 2, 6 + 28);
        edge.fault("costs " + Edge.nested(127, 7, "1 + 1 * (1)") + ";", 2, 6 + 28 + 8);
        edge.fine("costs " + Edge.nested(127, 7, "1 and (1)") + ";");
        edge.fine("costs " + Edge.nested(127, 7, "1 or not not 1 = (1)") + ";");
        edge.of("7: how many not, ( ) it is within: 7 at most");
        for (int pattern = 0; pattern < 128; pattern++) {
            due("pattern " + pattern, Bench.of("goal " + Edge.nested(pattern, 7, "true") + ";").look(0, 1), 7);
        }
        due("none", Bench.of("goal (true) and not true or true;").look(2, 1), 0);
    }

    private static void toldAhead() {
        edge.of("1: a NAME is one of a CONDITION told ahead; 5 a NAME that no CONDITION has");
        for (String line : new String[] {"goal ", "never "}) {
            int at = line.length();
            edge.fault(line + "a;", 5, at);
            edge.fault(line + "a;cond a;", 5, at);
            edge.fine("cond a;" + line + "a;");
            edge.fault("cond a;" + line + "b;cond b;", 5, at + 7);
            edge.fine("cond a;" + line + "a;cond b;");
            edge.fault("cond a;" + line + "not (true or aa);", 5, at + 7 + 13);
            edge.fault("cond aa;" + line + "a;", 5, at + 8);
            edge.fault("cond a;" + line + "a and b", 5, at + 7 + 6);
        }
        edge.of("1: 3 a NAME told already");
        edge.fault("cond a;cond a;", 3, 12);
        edge.fault("cond a;cond b;cond c;cond c;", 3, 26);
        edge.fault("cond a;cond b;cond c;cond a;", 3, 26);
        edge.fault("cond abcdefgh;cond abcdefgh;", 3, 19);
        edge.fault("cond a;goal a;cond a", 3, 19);
        edge.fine("cond abcdefgh;cond abcdefgg;cond a;cond aa;");
        // names of a text that is read no more
        FlipCover x = Bench.of("cond a;cond b;");
        Bench.put(x, "cond b;goal a;");
        due("a name of the text ahead", x.decision(), -1);
        due("its fault", x.fault(0), 5);
        Bench.put(x, "cond b;cond a;goal a;");
        due("told anew", x.decision(), 2);
        due("numbered anew", x.truths(), 12);
    }

    private static void firstByPlace() {
        edge.of("1: FAULTS, the first by its place");
        String[] bad = {"cond abcdefghi;", "cond true;", "cond z;cond z;", "loses 101;", "goal y;"};
        int[] sorts = {1, 2, 3, 4, 5};
        int[] places = {5, 5, 12, 6, 5};
        for (int i = 0; i < bad.length; i++) {
            edge.fault(bad[i], sorts[i], places[i]);
            edge.fault("\n\n" + bad[i], sorts[i], places[i] + 2);
            for (int j = 0; j < bad.length; j++) {
                edge.fault(bad[i] + bad[j], sorts[i], places[i]);
                edge.fault("cond q;" + bad[i] + bad[j], sorts[i], places[i] + 7);
            }
        }
        edge.fault("cond a;goal a and (b or $);", 5, 19);
        edge.fault("cond a;goal a and $ or b;", 1, 18);
        edge.fault("loses 500 500;", 4, 6);
        edge.fault("cond a cond a;", 2, 7);
        edge.of("1: bytes from 0");
        edge.fault("$", 1, 0);
        edge.fault("+", 2, 0);
    }

    private static void leastAtOnePlace() {
        edge.of("1: at one place the least");
        edge.fault("cond $;", 1, 5);
        edge.fault("$", 1, 0);
        edge.fault("cond a;cond abcdefghi;", 1, 12);
        edge.fault("goal abcdefghi;", 1, 5);
        edge.fault("loses 10001;", 1, 6);
        edge.fault("draw 5000x;", 1, 5);
        edge.fault("loses 101x;", 1, 6);
        edge.fault("cond a 10000;", 1, 7);
        edge.fault("cond a;cond b a;", 2, 14);
        edge.fault("loses 5 500;", 2, 8);
        edge.fault("draw;5000;", 2, 4);
        edge.fault("cond a;goal a b;", 2, 14);
        edge.fault("b;", 2, 0);
        edge.fault("1000;", 2, 0);
        edge.fault("goal true" + " or true".repeat(9) + " or x;", 2, 5 + 4 + 72 + 4);
        edge.fault(Edge.conds(4) + "cond a;", 2, 28);
        edge.fault("loses 5;loses 500;", 2, 8);
    }

    private static void placeOfTheEnd() {
        edge.of("1: the end: the text's length");
        String text = "cond a;cond b;goal (a or not b) and a;never a and b;costs (1 + ones) * 2 < 3;loses 3;draw 4;";
        for (int n = 0; n <= text.length(); n++) {
            String cut = text.substring(0, n);
            if (cut.isEmpty() || cut.endsWith(";")) {
                edge.fine(cut);
                edge.fine(cut + " \n ");
                continue;
            }
            // a name that is cut is another one, and the words that lines begin with can't be names
            FlipCover x = Bench.of(cut);
            boolean firstWord = cut.substring(cut.lastIndexOf(';') + 1).matches("[a-z]*")
                && !cut.substring(cut.lastIndexOf(';') + 1).matches("cond|goal|never|costs|loses|draw");
            boolean cutWord = cut.matches("(?s).*[ (](o|n|no|a|an|on|one)") && Character.isLetter(text.charAt(n));
            if (!firstWord && !cutWord) {
                due("<" + cut + "> fault", x.fault(0), 2);
                due("<" + cut + "> place", x.fault(1), n);
                edge.fault(cut + "  \n", 2, n + 3);
                edge.fault(cut + "  \n$", 1, n + 3);
            }
        }
    }

    private static void ofTheLatestDecision() {
        edge.of("5: Of the latest decision() what 0: its FAULT (0: without; ahead of any, too), 1: its place (NONE)");
        FlipCover x = new FlipCover();
        due("ahead of any", x.fault(0), 0);
        due("ahead of any, place", x.fault(1), -1);
        Bench.put(x, "loses 101;");
        due("not read yet", x.fault(0), 0);
        x.decision();
        due("fault 4", x.fault(0), 4);
        due("fault 4, place", x.fault(1), 6);
        Bench.put(x, ";");
        due("not read yet, either", x.fault(0), 4);
        x.decision();
        due("fault 2", x.fault(0), 2);
        due("fault 2, place", x.fault(1), 0);
        x.run(0);
        x.undo();
        x.feed(0, 0, 0, 0, 0);
        x.end(0);
        due("whatever was done", x.fault(0), 2);
        x.decision();
        due("without", x.fault(0), 0);
        due("without, place", x.fault(1), -1);
        edge.of("5: NONE for another what");
        Bench.put(x, "goal x;");
        x.decision();
        due("2", x.fault(2), -1);
        due("-1", x.fault(-1), -1);
        for (int far : Edge.FAR) {
            due("" + far, x.fault(far), -1);
        }
    }
}
