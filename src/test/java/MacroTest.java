/** Promise 4: macro. */
final class MacroTest {
    public static void main(String[] args) {
        numbersOutOfRange();
        lengths();
        arguments();
        onlyWhatIsThere();
        inPlaceOfAnother();
        Check.end();
    }

    private static void numbersOutOfRange() {
        GlyphCompiler x = new GlyphCompiler();
        Script.feed(x, "x0 = 1 ;");
        int[][] wrong = {{-1, 0}, {6, 0}, {0, -1}, {0, 4}, {Integer.MIN_VALUE, 0}, {Integer.MAX_VALUE, 0},
            {0, Integer.MIN_VALUE}, {0, Integer.MAX_VALUE}};
        for (int[] w : wrong) {
            Check.due("macro(" + w[0] + ", " + w[1] + ")", x.macro(w[0], w[1]), GlyphCompiler.REFUSED);
            Check.due("count(0)", x.count(0), 4);
        }
        for (int what = 9; what <= 14; what++) {
            Check.due("count(" + what + ")", x.count(what), -2);
        }
        Check.due("run()", x.run(), GlyphCompiler.OK);
        Check.due("state(0)", x.state(0), 2);
    }

    private static void lengths() {
        GlyphCompiler x = new GlyphCompiler();
        for (int m = 0; m < 6; m++) {
            Script.macro(x, m, m % 4, Script.repeat(";", m));
            Check.due("count(0)", x.count(0), 0);
            Check.due("count(" + (9 + m) + ")", x.count(9 + m), m);
        }
        Script.macro(x, 5, 0, Script.repeat(";", 40));
        Check.due("count(14)", x.count(14), 40);
        Script.feed(x, Script.repeat(";", 41));
        Check.due("macro(5, 0) of 41", x.macro(5, 0), GlyphCompiler.REFUSED);
        Check.due("count(14)", x.count(14), 40);
        Check.due("wipe()", x.wipe(), 41);
        Script.run(x, "@5 @0", GlyphCompiler.OK, 40);
        Check.due("count(7)", x.count(7), 40);
        Check.due("count(8)", x.count(8), 2);
    }

    private static void arguments() {
        for (int argument = 0; argument < 3; argument++) {
            for (int n = 0; n <= 3; n++) {
                GlyphCompiler x = new GlyphCompiler();
                Script.feed(x, "; $" + argument + " ;");
                boolean right = argument < n;
                Check.due("macro(2, " + n + ") with " + argument, x.macro(2, n), right ? 0 : GlyphCompiler.REFUSED);
                Check.due("count(0)", x.count(0), right ? 0 : 3);
                Check.due("count(11)", x.count(11), right ? 3 : -2);
            }
        }
    }

    private static void onlyWhatIsThere() {
        GlyphCompiler x = new GlyphCompiler();
        Script.feed(x, "$2");
        Check.due("macro(0, 2) of an argument alone", x.macro(0, 2), GlyphCompiler.REFUSED);
        Check.due("wipe()", x.wipe(), 1);
        // An argument that has been wiped is not in the way.
        Script.feed(x, "; ; $2");
        Check.due("wipe()", x.wipe(), 3);
        Script.macro(x, 0, 0, "; ;");
        Script.run(x, "@0", GlyphCompiler.OK, 2);
    }

    private static void inPlaceOfAnother() {
        GlyphCompiler x = new GlyphCompiler();
        Script.macro(x, 3, 1, "show $0 ;");
        Script.run(x, "@3 ( 7 )", GlyphCompiler.OK, 3);
        Script.macro(x, 3, 0, "show 2 ; show 3 ;");
        Check.due("count(12)", x.count(12), 6);
        Script.run(x, "@3", GlyphCompiler.OK, 6);
        Check.due("shown(0)", x.shown(0), 3 * 65536);
        Check.due("shown(1)", x.shown(1), 2 * 65536);
        Check.due("shown(2)", x.shown(2), 7 * 65536);
        Script.macro(x, 3, 2, "");
        Check.due("count(12)", x.count(12), 0);
        Script.run(x, "@3 ( 1 , 2 )", GlyphCompiler.OK, 0);
        Script.run(x, "@3", GlyphCompiler.SHAPE, 0);
    }
}
