/** Promises 2 and 3: feed and wipe. */
final class InputTest {
    /** For each kind the least and the greatest value. */
    private static final int[][] RANGES = {{-16000, 16000}, {0, 11}, {0, 2}, {0, 5}, {0, 13}};

    public static void main(String[] args) {
        rangesOfTokens();
        full();
        wiped();
        Check.end();
    }

    private static void due(GlyphCompiler x, int kind, int value, int want) {
        Check.due("feed(" + kind + ", " + value + ")", x.feed(kind, value), want);
    }

    private static void rangesOfTokens() {
        GlyphCompiler x = new GlyphCompiler();
        int there = 0;
        for (int kind = 0; kind < RANGES.length; kind++) {
            int least = RANGES[kind][0];
            int greatest = RANGES[kind][1];
            due(x, kind, least, ++there);
            due(x, kind, greatest, ++there);
            due(x, kind, least - 1, GlyphCompiler.REFUSED);
            due(x, kind, greatest + 1, GlyphCompiler.REFUSED);
            due(x, kind, Integer.MIN_VALUE, GlyphCompiler.REFUSED);
            due(x, kind, Integer.MAX_VALUE, GlyphCompiler.REFUSED);
            Check.due("count(0)", x.count(0), there);
        }
        for (int kind : new int[] {-1, 5, Integer.MIN_VALUE, Integer.MAX_VALUE}) {
            due(x, kind, 0, GlyphCompiler.REFUSED);
        }
        Check.due("count(0)", x.count(0), there);
    }

    private static void full() {
        GlyphCompiler x = new GlyphCompiler();
        for (int there = 1; there <= 120; there++) {
            due(x, 4, 6, there);
        }
        due(x, 4, 6, GlyphCompiler.FULL);
        due(x, 4, 14, GlyphCompiler.REFUSED);
        due(x, 5, 0, GlyphCompiler.REFUSED);
        Check.due("count(0)", x.count(0), 120);
        Check.due("run()", x.run(), GlyphCompiler.OK);
        Check.due("place()", x.place(), 120);
        Check.due("count(7)", x.count(7), 120);
        due(x, 4, 6, 1);
    }

    private static void wiped() {
        GlyphCompiler x = new GlyphCompiler();
        Check.due("wipe()", x.wipe(), 0);
        Script.feed(x, "show 1 ;");
        Check.due("wipe()", x.wipe(), 3);
        Check.due("count(0)", x.count(0), 0);
        Check.due("wipe()", x.wipe(), 0);
        Check.due("run()", x.run(), GlyphCompiler.OK);
        Check.due("count(6)", x.count(6), 0);
        for (int there = 1; there <= 120; there++) {
            due(x, 0, 0, there);
        }
        Check.due("wipe()", x.wipe(), 120);
        Script.show(x, "2", 131072);
    }
}
