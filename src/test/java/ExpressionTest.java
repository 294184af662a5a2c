/** Promise 5, as far as the values of expressions go, and promise 14: shown. */
final class ExpressionTest {
    private static final long ONE = 65536;

    public static void main(String[] args) {
        values();
        outOfRange();
        partsOfNumbers();
        needNotBeNumbers();
        variables();
        shown();
        Check.end();
    }

    private static void values() {
        GlyphCompiler x = new GlyphCompiler();
        Script.show(x, "5", 5 * ONE);
        Script.show(x, "-5", -5 * ONE);
        Script.show(x, "1/16", 4096);
        Script.show(x, "16000/16", 1000 * ONE);
        Script.show(x, "-16000/16", -1000 * ONE);
        Script.show(x, "1 + 2 - 3 - 4 + 5", ONE);
        Script.show(x, "1 - - 2", 3 * ONE);
        Script.show(x, "1 + - 2", -ONE);
        Script.show(x, "3 ( 4 )", 12 * ONE);
        Script.show(x, "- 3 ( 4 - 6 ) - 1", 5 * ONE);
        Script.show(x, "1 - ( 2 - 3 )", 2 * ONE);
        Script.show(x, "1 - 2 ( 3 ) + 4", -ONE);
        Script.show(x, "3/16 ( 5/16 )", 15 * 256);
        Script.show(x, "8/16 between ( 3 , 4 )", 7 * ONE / 2);
        Script.show(x, "0 between ( 3 , 4 )", 3 * ONE);
        Script.show(x, "1 between ( 3 , 4 )", 4 * ONE);
        Script.show(x, "-2 between ( 3 , 4 )", ONE);
        Script.show(x, "5 between ( 3 , 4 )", 8 * ONE);
        Script.show(x, "- 5 between ( 3 , 4 )", -8 * ONE);
        Script.show(x, "1 - 2 between ( 3 , 4 ) + 1", -3 * ONE);
        Script.show(x, "4/16 between ( 8/16 between ( 0 , 8 ) , 2 between ( 3 , 4 ) - 1 )", 4 * ONE);
        Script.show(x, "2 ( 4/16 between ( 1 + 3 , 2 ( 3 ) + 2 ) )", 10 * ONE);
    }

    private static void range(GlyphCompiler x, String expression) {
        String text = "show " + expression + " ;";
        int noted = x.count(6);
        int done = x.count(7);
        Script.run(x, text, GlyphCompiler.RANGE, Script.tokens(text).size() - 1);
        Check.due("count(6) " + text, x.count(6), noted);
        Check.due("count(7) " + text, x.count(7), done);
    }

    private static void outOfRange() {
        GlyphCompiler x = new GlyphCompiler();
        Script.show(x, "1000 ( 1000 ) + 48 ( 1000 ) + 576", ONE << 20);
        Script.show(x, "- 1000 ( 1000 ) - 48 ( 1000 ) - 576", -ONE << 20);
        range(x, "1000 ( 1000 ) + 48 ( 1000 ) + 576 + 1/16 ( 1/16 ( 1/16 ( 1/16 ) ) )");
        range(x, "- 1000 ( 1000 ) - 48 ( 1000 ) - 576 - 1/16 ( 1/16 ( 1/16 ( 1/16 ) ) )");
        range(x, "1000 ( 1000 ( 2 ) ) - 1000 ( 1000 ) - 1000 ( 1000 )");
        range(x, "( 1000 ( 1000 ) + 1000 ( 1000 ) ) - 1000 ( 1000 )");
        range(x, "0 ( 1000 ( 1000 ) + 1000 ( 1000 ) )");
        range(x, "1 - 1 between ( 1 , 1000 ( 1000 ) + 1000 ( 1000 ) )");
        range(x, "0 between ( 1 , 1000 ( 1000 ) + 1000 ( 1000 ) )");
        range(x, "1000 between ( 1000 ( 1 ) , 1000 ( 3 ) )");
        range(x, "-16000/16 ( 1000 ( 1000 ) )");
        // Products of products may not come back into the range by wrapping round.
        range(x, "1000 ( 1000 ( 1000 ( 1000 ( 1000 ( 1000 ( 1000 ( 1000 ( 1000 ) ) ) ) ) ) ) )");
        range(x, "0 ( 1000 ( 1000 ( 1000 ( 1000 ( 1000 ( 1000 ( 1000 ( 1000 ) ) ) ) ) ) ) )");
    }

    private static void partsOfNumbers() {
        GlyphCompiler x = new GlyphCompiler();
        Script.show(x, "1/16 ( 1/16 ( 1/16 ( 1/16 ) ) )", 1);
        Script.show(x, "-1/16 ( 1/16 ( 1/16 ( 1/16 ) ) )", -1);
        Script.show(x, "3/16 ( 1/16 ( 5/16 ( 1/16 ) ) )", 15);
        Script.show(x, "16/16 ( 1/16 ( 1/16 ( 1/16 ( 1/16 ) ) ) )", 1);
        Script.show(x, "8/16 ( 2/16 ( 1/16 ( 1/16 ( 1/16 ) ) ) )", 1);
        range(x, "1/16 ( 1/16 ( 1/16 ( 1/16 ( 1/16 ) ) ) )");
        range(x, "8/16 ( 1/16 ( 1/16 ( 1/16 ( 1/16 ) ) ) )");
        range(x, "-8/16 ( 1/16 ( 1/16 ( 1/16 ( 1/16 ) ) ) )");
        range(x, "16 ( 1/16 ( 1/16 ( 1/16 ( 1/16 ( 1/16 ) ) ) ) )");
        range(x, "1/16 between ( 0 , 1/16 ( 1/16 ( 1/16 ( 1/16 ) ) ) )");
        range(x, "8/16 between ( 0 , 1/16 ( 1/16 ( 1/16 ( 1/16 ) ) ) )");
        range(x, "8/16 between ( 1/16 ( 1/16 ( 1/16 ( 1/16 ) ) ) , 0 )");
        // Two results that are no numbers do not make up for each other.
        range(x, "8/16 ( 1/16 ( 1/16 ( 1/16 ( 1/16 ) ) ) ) + 8/16 ( 1/16 ( 1/16 ( 1/16 ( 1/16 ) ) ) )");
        Script.show(x, "8/16 between ( 1/16 ( 1/16 ( 1/16 ( 1/16 ) ) ) , 3/16 ( 1/16 ( 1/16 ( 1/16 ) ) ) )", 2);
    }

    private static void needNotBeNumbers() {
        GlyphCompiler x = new GlyphCompiler();
        String million = "1000 ( 1000 )";
        Script.show(x, million + " + " + million + " + " + million + " - " + million + " - " + million, 1000000 * ONE);
        Script.show(x, "- " + million + " - " + million + " + " + million + " + " + million + " + 3", 3 * ONE);
        Script.show(x, "8/16 between ( - " + million + " , " + million + " )", 0);
        Script.show(x, "1 between ( - " + million + " , " + million + " )", 1000000 * ONE);
        range(x, "17/16 between ( - " + million + " , " + million + " )");
        range(x, "-1/16 between ( - " + million + " , " + million + " )");
    }

    private static void variables() {
        GlyphCompiler x = new GlyphCompiler();
        Script.show(x, "x0 - x0", 0);
        Script.show(x, "0 x7", 0);
        Script.show(x, "3 ( x1 + 2 ) - x1 - 2 ( x1 )", 6 * ONE);
        Script.show(x, "8/16 between ( x1 , x2 ) - 8/16 x1 - 8/16 x2 + 1", ONE);
        Script.run(x, "x3 = 2 x4 + 1 ; x5 = 7 ;");
        Script.show(x, "x3 - 2 x4 + x5", 8 * ONE);
        Script.show(x, "3 x5", 21 * ONE);
        for (String unknown : new String[] {"x0", "x3", "x4", "x0 - x1", "1/16 x0 + 1", "8/16 between ( x0 , 1 )"}) {
            String text = "show " + unknown + " ;";
            Script.run(x, text, GlyphCompiler.UNKNOWN, Script.tokens(text).size() - 1);
        }
        // A factor that is no number is an error, too, even if the form would have none in the end.
        range(x, "1000 ( 1000 ( 1000 x0 ) )");
        range(x, "1/16 ( 1/16 ( 1/16 ( 1/16 ( 1/16 x0 ) ) ) )");
        range(x, "0 ( 1000 ( 1000 ( 2 x0 ) ) )");
        range(x, "1000 ( 1000 x0 ) + 1000 ( 1000 x0 )");
        Script.show(x, "1000 ( 1000 x0 ) + 1000 ( 1000 x0 ) - 1000 ( 1000 x0 ) - 1000 ( 1000 x0 )", 0);
    }

    private static void shown() {
        GlyphCompiler x = new GlyphCompiler();
        for (int n = 1; n <= 20; n++) {
            Script.run(x, "show " + n + " ;");
            Check.due("count(6)", x.count(6), n);
            for (int k = 0; k < 10; k++) {
                Check.due("shown(" + k + ") of " + n, x.shown(k), k < 8 && k < n ? (n - k) * ONE : GlyphCompiler.NONE);
            }
        }
        for (int k : new int[] {-1, 8, 9, 16, Integer.MIN_VALUE, Integer.MAX_VALUE}) {
            Check.due("shown(" + k + ")", x.shown(k), GlyphCompiler.NONE);
        }
        Script.run(x, "show 30 ; show 31 ; show x0 ; show 32 ;", GlyphCompiler.UNKNOWN, 8);
        Check.due("shown(0)", x.shown(0), 31 * ONE);
        Check.due("shown(1)", x.shown(1), 30 * ONE);
        Check.due("shown(2)", x.shown(2), 20 * ONE);
        x.forget();
        x.clean();
        x.wipe();
        Check.due("shown(0) stays", x.shown(0), 31 * ONE);
        Check.due("count(6) stays", x.count(6), 22);
    }
}
