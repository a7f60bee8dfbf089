import java.io.IOException;
import java.nio.file.Files;
import java.nio.file.Path;
import java.util.ArrayList;
import java.util.HashSet;
import java.util.List;
import java.util.Set;
import java.util.regex.Matcher;
import java.util.regex.Pattern;

/** Rules of LANGUAGE.md that the program's text can tell; the project's directory is the first argument. */
public final class RulesTest {
    private static final Bench bench = new Bench();
    private static final Pattern HEAD = Pattern.compile("^( +)((?:[a-z]+ )*)([A-Za-z]+(?:\\[\\])* )?([A-Za-z]+)\\((.*)\\) \\{$");
    private static final Set<String> FLOW = Set.of("if", "for", "while", "switch", "else", "do");

    public static void main(String[] args) throws IOException {
        Path root = Path.of(args.length > 0 ? args[0] : ".");
        String text = Files.readString(root.resolve("src/main/java/FlipCover.java"));
        String bare = bare(text);
        words(bare);
        signs(text);
        classes(bare);
        methods(bare.split("\n", -1));
        bench.end("RulesTest");
    }

    private static void due(String call, long got, long want) {
        bench.due(call, got, want);
    }

    /** The text without comments and without what stands in quotes. */
    private static String bare(String text) {
        return text.replaceAll("(?s)/\\*.*?\\*/", "").replaceAll("//[^\n]*", "")
            .replaceAll("\"[^\"\n]*\"", "\"\"").replaceAll("'[^'\n]+'", "' '");
    }

    private static void words(String bare) {
        for (String word : List.of("throw", "throws", "try", "catch", "finally", "synchronized", "assert", "import",
            "package", "protected", "volatile", "native", "var", "Object", "System\\.(?!arraycopy)[a-z]+", "Thread",
            "equals", "hashCode", "toString", "double", "float", "transient")) {
            due("word " + word, count(bare, "\\b" + word + "\\b"), 0);
        }
        // functions alone: a constant as Integer.MAX_VALUE is not on the list
        String others = "\\b(?:Integer|Long|Math)\\.(?!(?:bitCount|compare|max|min|abs|floorDiv|floorMod)\\()";
        due("what else of Integer, Long, Math", count(bare, others), 0);
        for (String sign : List.of("->", "::", "@", "\\bnew [A-Z][A-Za-z]*\\([^)]*\\) \\{")) {
            due("sign " + sign, count(bare, sign), 0);
        }
        // static state is constants alone, and what is made is made in constructors or with the object
        due("static fields that are not final", count(bare, "(?m)^ *(private )?static (?!final|int |long |boolean )[^(]*[;=]"), 0);
    }

    private static void signs(String text) {
        int others = 0;
        for (int i = 0; i < text.length(); i++) {
            others += text.charAt(i) > 126 ? 1 : 0;
        }
        due("signs above 126", others, 0);
    }

    private static void classes(String bare) {
        int all = count(bare, "\\bclass [A-Z]");
        due("twelve classes at most", Math.max(all, 12), 12);
        due("public ones", count(bare, "\\bpublic final class FlipCover\\b"), 1);
        due("public classes, constructors, constants, methods", count(bare, "\\bpublic "), 1 + 1 + 1 + 50);
        due("classes inside are static", count(bare, "(?m)^    (abstract static|static final) class "), all - 1);
    }

    private static void methods(String[] lines) {
        Set<String> face = new HashSet<>();
        List<String> own = new ArrayList<>();
        for (int i = 0; i < lines.length; i++) {
            Matcher head = HEAD.matcher(lines[i]);
            if (head.matches() && !FLOW.contains(head.group(4))) {
                String name = head.group(4);
                (head.group(2).contains("public") ? face : own).add(name);
                due("parameters of " + name, Math.max(7, count(head.group(5), ",") + 1), 7);
                due("lines of " + name, Math.max(60, linesFrom(lines, i, head.group(1))), 60);
            }
        }
        due("the face has been found", face.size(), 51);
        due("others have been found", Math.min(100, own.size()), 100);
        for (String name : own) {
            due("not of the face: " + name, face.contains(name), false);
        }
    }

    private static void due(String call, boolean got, boolean want) {
        bench.due(call, got, want);
    }

    private static int linesFrom(String[] lines, int from, String blanks) {
        for (int i = from; i < lines.length; i++) {
            if (lines[i].equals(blanks + "}")) {
                return i - from + 1;
            }
        }
        return Integer.MAX_VALUE;
    }

    private static int count(String text, String pattern) {
        Matcher matcher = Pattern.compile(pattern).matcher(text);
        int count = 0;
        while (matcher.find()) {
            count++;
        }
        return count;
    }
}
