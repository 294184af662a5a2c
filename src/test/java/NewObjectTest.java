/** Promise 1, and the constants. */
final class NewObjectTest {
    public static void main(String[] args) {
        GlyphCompiler x = new GlyphCompiler();
        for (int what = 0; what <= 14; what++) {
            boolean nothing = what >= 2 && what <= 5 || what >= 9;
            Check.due("count(" + what + ")", x.count(what), nothing ? -2 : 0);
        }
        Check.due("place()", x.place(), -1);
        for (int v = 0; v < 12; v++) {
            Check.due("state(" + v + ")", x.state(v), 0);
            Check.due("number(" + v + ")", x.number(v), GlyphCompiler.NONE);
            Check.due("factor(" + v + ", " + v + ")", x.factor(v, v), GlyphCompiler.NONE);
        }
        for (int j = 0; j < 24; j++) {
            Check.due("stretch(" + j + ", 0)", x.stretch(j, 0), -2);
            GlyphCompiler fresh = new GlyphCompiler();
            for (int i = 0; i < 32; i++) {
                Check.due("black(" + i + ", " + j + ")", fresh.black(i, j), false);
            }
        }
        Check.due("shown(0)", x.shown(0), GlyphCompiler.NONE);
        objectsAreApart();
        constants();
        Check.end();
    }

    private static void objectsAreApart() {
        GlyphCompiler x = new GlyphCompiler();
        GlyphCompiler y = new GlyphCompiler();
        Script.run(x, "x0 = 1 ; show x0 ; fill ( 0 , 0 ) line ( 0 , 9 ) line ( 9 , 9 ) line cycle ;");
        Script.macro(x, 0, 0, "x1");
        Script.feed(x, "x1");
        Check.due("state(0) of another", y.state(0), 0);
        Check.due("shown(0) of another", y.shown(0), GlyphCompiler.NONE);
        Check.due("count(0) of another", y.count(0), 0);
        Check.due("count(1) of another", y.count(1), 0);
        Check.due("count(7) of another", y.count(7), 0);
        Check.due("count(9) of another", y.count(9), -2);
        Check.due("place() of another", y.place(), -1);
    }

    private static void constants() {
        int[] constants = {
            GlyphCompiler.OK, GlyphCompiler.REFUSED, GlyphCompiler.FULL, GlyphCompiler.STRAY, GlyphCompiler.UNDEFINED,
            GlyphCompiler.DEEP, GlyphCompiler.SHAPE, GlyphCompiler.LONG, GlyphCompiler.SYNTAX, GlyphCompiler.RANGE,
            GlyphCompiler.CONFLICT, GlyphCompiler.HARD, GlyphCompiler.UNKNOWN, GlyphCompiler.GRID
        };
        for (int c = 0; c < constants.length; c++) {
            Check.due("constant " + c, constants[c], -c);
        }
        Check.due("NONE", GlyphCompiler.NONE, 1000000000000000L);
    }
}
