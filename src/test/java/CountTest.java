/** Promises 6 and 15: place and count, over several runs. */
final class CountTest {
    public static void main(String[] args) {
        counts();
        places();
        outOfRange();
        Check.end();
    }

    private static void due(GlyphCompiler x, int what, int want) {
        Check.due("count(" + what + ")", x.count(what), want);
    }

    private static void counts() {
        GlyphCompiler x = new GlyphCompiler();
        Script.macro(x, 1, 1, "show $0 ;");
        due(x, 10, 3);
        Script.feed(x, "@1 ( 1 )");
        due(x, 0, 4);
        due(x, 8, 0);
        Check.due("run()", x.run(), GlyphCompiler.OK);
        due(x, 0, 0);
        due(x, 6, 1);
        due(x, 7, 1);
        due(x, 8, 1);
        Script.run(x, "; @1 ( 1 ) @1 ( 2 ) @1 ( x0 ) ;", GlyphCompiler.UNKNOWN, 9);
        due(x, 6, 3);
        due(x, 7, 4);
        due(x, 8, 3);
        Script.run(x, "; ;");
        due(x, 7, 6);
        due(x, 8, 0);
        Script.run(x, "@1 ( @1", GlyphCompiler.SHAPE, 0);
        due(x, 8, 0);
        Script.run(x, "; @1 ( 2 ) @1", GlyphCompiler.SHAPE, 4);
        due(x, 7, 6);
        due(x, 8, 1);
        x.wipe();
        x.forget();
        x.clean();
        due(x, 6, 3);
        due(x, 7, 6);
        due(x, 8, 1);
        due(x, 10, 3);
        Script.run(x, "fill ( 4 , 7 ) line ( 9 , 7 ) line ( 9 , 8 ) line ( 4 , 8 ) line cycle ; "
            + "fill ( 6 , 2 ) line ( 7 , 2 ) line ( 7 , 3 ) line ( 6 , 3 ) line cycle ;");
        due(x, 1, 6);
        due(x, 2, 4);
        due(x, 3, 8);
        due(x, 4, 2);
        due(x, 5, 7);
    }

    private static void places() {
        GlyphCompiler x = new GlyphCompiler();
        Check.due("place()", x.place(), -1);
        Script.feed(x, "show x0 ;");
        Check.due("place()", x.place(), -1);
        Check.due("wipe()", x.wipe(), 3);
        Script.macro(x, 0, 0, "show x0 ;");
        Check.due("place()", x.place(), -1);
        Script.run(x, "", GlyphCompiler.OK, 0);
        Script.run(x, "; ; @0 ;", GlyphCompiler.UNKNOWN, 4);
        Script.feed(x, "x1");
        Check.due("place() stays", x.place(), 4);
        x.wipe();
        x.forget();
        x.clean();
        Check.due("place() stays", x.place(), 4);
        Script.run(x, "x0 = 1 ;");
        Script.run(x, "@0 @0", GlyphCompiler.OK, 6);
        Script.run(x, "", GlyphCompiler.OK, 0);
    }

    private static void outOfRange() {
        GlyphCompiler x = new GlyphCompiler();
        for (int what : new int[] {-1, -9, 15, 16, Integer.MIN_VALUE, Integer.MIN_VALUE + 8, Integer.MAX_VALUE}) {
            due(x, what, GlyphCompiler.REFUSED);
        }
        due(x, 14, -2);
    }
}
