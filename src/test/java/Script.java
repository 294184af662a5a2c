import java.util.ArrayList;
import java.util.List;

/**
 * Programs as texts, for the tests: tokens with blanks between them. 5 and -5 are constants, 3/16 one in
 * 16ths, x4 a variable, $1 an argument, @2 a call, and the words are + - = ( ) , ; curve line cycle fill
 * erase show between.
 */
final class Script {
    static final List<String> WORDS = List.of(
        "+", "-", "=", "(", ")", ",", ";", "curve", "line", "cycle", "fill", "erase", "show", "between");

    private Script() {
    }

    /** Each token as its kind and its value. */
    static List<int[]> tokens(String text) {
        List<int[]> tokens = new ArrayList<>();
        for (String part : text.trim().split("\\s+")) {
            if (!part.isEmpty()) {
                tokens.add(token(part));
            }
        }
        return tokens;
    }

    private static int[] token(String part) {
        int word = WORDS.indexOf(part);
        if (word >= 0) {
            return new int[] {4, word};
        }
        switch (part.charAt(0)) {
            case 'x':
                return new int[] {1, Integer.parseInt(part.substring(1))};
            case '$':
                return new int[] {2, Integer.parseInt(part.substring(1))};
            case '@':
                return new int[] {3, Integer.parseInt(part.substring(1))};
            default:
                return part.endsWith("/16")
                    ? new int[] {0, Integer.parseInt(part.substring(0, part.length() - 3))}
                    : new int[] {0, 16 * Integer.parseInt(part)};
        }
    }

    static String text(List<int[]> tokens) {
        StringBuilder text = new StringBuilder();
        for (int[] token : tokens) {
            text.append(text.length() == 0 ? "" : " ").append(text(token));
        }
        return text.toString();
    }

    private static String text(int[] token) {
        switch (token[0]) {
            case 0:
                return token[1] % 16 == 0 ? "" + token[1] / 16 : token[1] + "/16";
            case 1:
                return "x" + token[1];
            case 2:
                return "$" + token[1];
            case 3:
                return "@" + token[1];
            default:
                return WORDS.get(token[1]);
        }
    }

    static void feed(GlyphCompiler x, String text) {
        int there = x.count(0);
        for (int[] token : tokens(text)) {
            there++;
            Check.due("feed(" + token[0] + ", " + token[1] + ") of " + text, x.feed(token[0], token[1]), there);
        }
    }

    static void macro(GlyphCompiler x, int m, int n, String body) {
        feed(x, body);
        Check.due("macro(" + m + ", " + n + ") " + body, x.macro(m, n), GlyphCompiler.OK);
    }

    /** Runs the text, which must answer the error at the place. */
    static void run(GlyphCompiler x, String text, int error, int place) {
        feed(x, text);
        Check.due("run() " + text, x.run(), error);
        Check.due("place() " + text, x.place(), place);
        Check.due("count(0) after run() " + text, x.count(0), 0);
    }

    /** Runs the text, which must have no error and be as long as it is written. */
    static void run(GlyphCompiler x, String text) {
        run(x, text, GlyphCompiler.OK, tokens(text).size());
    }

    /** Runs "show" of an expression on the object and looks at the number, in 65536ths. */
    static void show(GlyphCompiler x, String expression, long want) {
        run(x, "show " + expression + " ;");
        Check.due("shown(0) of " + expression, x.shown(0), want);
    }

    static String repeat(String part, int times) {
        StringBuilder text = new StringBuilder();
        for (int t = 0; t < times; t++) {
            text.append(part).append(' ');
        }
        return text.toString();
    }
}
