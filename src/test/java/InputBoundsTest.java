/** The boundary cases of promises 1 to 4, and of the terms they use, sentence by sentence. */
final class InputBoundsTest {
    public static void main(String[] args) {
        newObject();
        kindsAndValues();
        feed();
        wipe();
        macroNumbers();
        macroLengths();
        macroArguments();
        Check.end();
    }

    private static void due(GlyphCompiler x, int kind, int value, int want) {
        Check.due("feed(" + kind + ", " + value + ")", x.feed(kind, value), want);
    }

    private static void newObject() {
        Check.sentence("Empty INPUT");
        GlyphCompiler x = new GlyphCompiler();
        Check.due("count(0)", x.count(0), 0);
        Check.due("wipe()", x.wipe(), 0);
        Check.due("run()", x.run(), GlyphCompiler.OK);
        Check.due("place()", x.place(), 0);
        Check.sentence("no macros");
        for (int m = 0; m < 6; m++) {
            Check.due("count(" + (9 + m) + ")", x.count(9 + m), -2);
            Script.run(x, "@" + m, GlyphCompiler.UNDEFINED, 0);
        }
        Check.sentence("all VARIABLES FREE");
        for (int v = 0; v < 12; v++) {
            Check.due("state(" + v + ")", x.state(v), 0);
        }
        Check.sentence("a white PICTURE");
        Check.due("count(1)", x.count(1), 0);
        Check.due("the picture", Look.picture(x), "");
    }

    /** Just inside and just outside, and as far outside as an int goes. */
    private static void range(int kind, int least, int greatest) {
        GlyphCompiler x = new GlyphCompiler();
        due(x, kind, least - 1, GlyphCompiler.REFUSED);
        due(x, kind, greatest + 1, GlyphCompiler.REFUSED);
        due(x, kind, Integer.MIN_VALUE, GlyphCompiler.REFUSED);
        due(x, kind, Integer.MAX_VALUE, GlyphCompiler.REFUSED);
        Check.due("count(0)", x.count(0), 0);
        due(x, kind, least, 1);
        due(x, kind, greatest, 2);
        due(x, kind, least - 1, GlyphCompiler.REFUSED);
        due(x, kind, greatest + 1, GlyphCompiler.REFUSED);
        Check.due("count(0)", x.count(0), 2);
    }

    private static void kindsAndValues() {
        Check.sentence("0 CONSTANT v, v in 16ths, -16000 .. 16000.");
        range(0, -16000, 16000);
        GlyphCompiler x = new GlyphCompiler();
        Script.show(x, "-16000/16", -1000 * 65536);
        Script.show(x, "16000/16", 1000 * 65536);
        Check.sentence("1 VARIABLE v (0 .. 11).");
        range(1, 0, 11);
        Check.sentence("2 ARGUMENT v (0 .. 2).");
        range(2, 0, 2);
        Check.sentence("3 CALL v of macro 0 .. 5.");
        range(3, 0, 5);
        Check.sentence("4 WORD v: 0 plus, .. 13 between.");
        range(4, 0, 13);
        Check.sentence("kind 0 .. 4");
        for (int kind : new int[] {-1, 5, Integer.MIN_VALUE, Integer.MAX_VALUE}) {
            due(x, kind, 0, GlyphCompiler.REFUSED);
            Check.due("count(0)", x.count(0), 0);
        }
        for (int kind = 0; kind <= 4; kind++) {
            due(x, kind, 0, kind + 1);
        }
    }

    private static void feed() {
        Check.sentence("Puts a TOKEN at the end of the INPUT: how many.");
        GlyphCompiler x = new GlyphCompiler();
        for (int there = 1; there <= 119; there++) {
            due(x, 4, 6, there);
        }
        Check.sentence("THE INPUT is at most 120 TOKENS.");
        due(x, 4, 6, 120);
        Check.due("count(0)", x.count(0), 120);
        Check.sentence("120 there: FULL.");
        due(x, 4, 6, GlyphCompiler.FULL);
        due(x, 0, 16000, GlyphCompiler.FULL);
        due(x, 3, 5, GlyphCompiler.FULL);
        Check.due("count(0)", x.count(0), 120);
        due(x, 4, 14, GlyphCompiler.REFUSED);
        due(x, -1, 0, GlyphCompiler.REFUSED);
        Check.due("count(0)", x.count(0), 120);
        Check.due("run()", x.run(), GlyphCompiler.OK);
        Check.due("place()", x.place(), 120);
        due(x, 4, 6, 1);
        // The last token that there was room for is the one that counts, not the one that came after.
        x.wipe();
        Script.feed(x, Script.repeat(";", 117) + "show 7 ;");
        due(x, 4, 12, GlyphCompiler.FULL);
        Check.due("run()", x.run(), GlyphCompiler.OK);
        Check.due("shown(0)", x.shown(0), 7 * 65536);
    }

    private static void wipe() {
        Check.sentence("The INPUT becomes empty.");
        GlyphCompiler x = new GlyphCompiler();
        Script.feed(x, "show 5 ;");
        x.wipe();
        Check.due("count(0)", x.count(0), 0);
        due(x, 4, 6, 1);
        Check.due("run()", x.run(), GlyphCompiler.OK);
        Check.due("place()", x.place(), 1);
        Check.due("count(6)", x.count(6), 0);
        Check.sentence("How many TOKENS it had.");
        for (int had : new int[] {0, 1, 2, 41, 119, 120, 0}) {
            Script.feed(x, Script.repeat("$2", had));
            Check.due("wipe()", x.wipe(), had);
        }
        Script.feed(x, Script.repeat(";", 120));
        due(x, 4, 6, GlyphCompiler.FULL);
        Check.due("wipe() of a full input", x.wipe(), 120);
        Check.due("wipe() again", x.wipe(), 0);
    }

    private static void macroNumbers() {
        Check.sentence("macro m 0 .. 5");
        for (int m : new int[] {Integer.MIN_VALUE, -1, 6, Integer.MAX_VALUE}) {
            refused(m, 0, "; ;", 2);
            refused(m, 3, "", 0);
        }
        GlyphCompiler x = new GlyphCompiler();
        for (int m = 0; m <= 5; m++) {
            Script.macro(x, m, 0, Script.repeat(";", m + 1));
            for (int other = 0; other <= 5; other++) {
                Check.due("count(" + (9 + other) + ")", x.count(9 + other), other <= m ? other + 1 : -2);
            }
        }
        Check.sentence("with n 0 .. 3 parameters");
        for (int n : new int[] {Integer.MIN_VALUE, -1, 4, Integer.MAX_VALUE}) {
            refused(0, n, "; ;", 2);
            refused(5, n, "", 0);
        }
        String[] calls = {"@0", "@0 ( 1 )", "@0 ( 1 , 2 )", "@0 ( 1 , 2 , 3 )"};
        for (int n = 0; n <= 3; n++) {
            Script.macro(x, 0, n, ";");
            Script.run(x, calls[n], GlyphCompiler.OK, 1);
        }
    }

    /** The call is refused and the input stays, so that it can still be made the body of another. */
    private static void refused(int m, int n, String body, int length) {
        GlyphCompiler x = new GlyphCompiler();
        Script.feed(x, body);
        Check.due("macro(" + m + ", " + n + ")", x.macro(m, n), GlyphCompiler.REFUSED);
        Check.due("count(0)", x.count(0), length);
        for (int what = 9; what <= 14; what++) {
            Check.due("count(" + what + ")", x.count(what), -2);
        }
        Check.due("macro(3, 3)", x.macro(3, 3), GlyphCompiler.OK);
        Check.due("count(12)", x.count(12), length);
        Check.due("count(0)", x.count(0), 0);
    }

    private static void macroLengths() {
        Check.sentence("A MACRO has .. a body of at most 40 TOKENS.");
        GlyphCompiler x = new GlyphCompiler();
        for (int length : new int[] {0, 1, 39, 40}) {
            Script.macro(x, 2, 1, Script.repeat(";", length));
            Check.due("count(11)", x.count(11), length);
            Check.due("count(0)", x.count(0), 0);
            Script.run(x, "@2 ( )", GlyphCompiler.OK, length);
        }
        Check.sentence("It has more than 40 TOKENS .. : REFUSED.");
        for (int length : new int[] {41, 42, 80, 120}) {
            Script.feed(x, Script.repeat(";", length));
            Check.due("macro(2, 1) of " + length, x.macro(2, 1), GlyphCompiler.REFUSED);
            Check.due("count(0)", x.count(0), length);
            Check.due("count(11)", x.count(11), 40);
            Check.due("wipe()", x.wipe(), length);
        }
        Script.run(x, "@2 ( )", GlyphCompiler.OK, 40);
        Check.sentence("in place of any other, and is empty then");
        Script.macro(x, 2, 0, "");
        Check.due("count(11)", x.count(11), 0);
        Script.run(x, "@2", GlyphCompiler.OK, 0);
        Script.macro(x, 2, 2, "show $1 ;");
        Check.due("count(0)", x.count(0), 0);
        Script.run(x, "@2 ( 1 , 2 )", GlyphCompiler.OK, 3);
        Check.due("shown(0)", x.shown(0), 2 * 65536);
        // The body is what the input was, not what it is later.
        Script.feed(x, "fill fill fill");
        Check.due("wipe()", x.wipe(), 3);
        Script.run(x, "@2 ( 1 , 3 )", GlyphCompiler.OK, 3);
        Check.due("shown(0)", x.shown(0), 3 * 65536);
    }

    private static void macroArguments() {
        Check.sentence("or an ARGUMENT that is not below n: REFUSED.");
        for (int n = 0; n <= 3; n++) {
            for (int argument = 0; argument <= 2; argument++) {
                for (int place : new int[] {0, 1, 38, 39}) {
                    String body = Script.repeat(";", place) + "$" + argument + " " + Script.repeat(";", 39 - place);
                    GlyphCompiler x = new GlyphCompiler();
                    Script.feed(x, body);
                    boolean right = argument < n;
                    Check.due("macro(4, " + n + ") of " + body, x.macro(4, n), right ? GlyphCompiler.OK : GlyphCompiler.REFUSED);
                    Check.due("count(0)", x.count(0), right ? 0 : 40);
                    Check.due("count(13)", x.count(13), right ? 40 : -2);
                }
            }
        }
        // Only an argument counts, not another token of that value, and one wrong among right ones is enough.
        GlyphCompiler x = new GlyphCompiler();
        Script.macro(x, 0, 0, "x2 @2 = 2/16 x11 16000/16 between");
        Script.feed(x, "$0 $1 $0");
        Check.due("macro(0, 1)", x.macro(0, 1), GlyphCompiler.REFUSED);
        Check.due("count(9)", x.count(9), 7);
        Check.due("macro(0, 2)", x.macro(0, 2), GlyphCompiler.OK);
        Check.due("count(9)", x.count(9), 3);
        Script.feed(x, "$1 $0");
        Check.due("macro(0, 1)", x.macro(0, 1), GlyphCompiler.REFUSED);
        Check.due("count(0)", x.count(0), 2);
    }
}
