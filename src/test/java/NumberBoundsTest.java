/** The boundary cases of NUMBERS and of working out an EXPR, and of show (promises 5 and 14), sentence by sentence. */
final class NumberBoundsTest {
    private static final long LARGEST = Powers.ONE << 20;
    private static final String MOST = Powers.of(20);
    private static final String LEAST = Powers.of(-16);

    public static void main(String[] args) {
        numbers();
        wholes();
        terms();
        primaries();
        factors();
        onTheWay();
        replaced();
        noted();
        kept();
        Check.end();
    }

    private static void fails(GlyphCompiler x, String expression, int error) {
        String text = "show " + expression + " ;";
        String before = Look.results(x);
        Script.run(x, text, error, Script.tokens(text).size() - 1);
        Check.due("what is left by " + text, Look.results(x), before);
    }

    private static void range(String expression) {
        fails(new GlyphCompiler(), expression, GlyphCompiler.RANGE);
    }

    private static void unknown(String expression) {
        fails(new GlyphCompiler(), expression, GlyphCompiler.UNKNOWN);
    }

    private static void shows(String expression, long want) {
        Script.show(new GlyphCompiler(), expression, want);
    }

    private static void numbers() {
        Check.sentence("NUMBERS are exact multiples of 2^-16 of a size up to 2^20");
        for (int power = -16; power <= 20; power++) {
            long size = power < 0 ? Powers.ONE >> -power : Powers.ONE << power;
            shows(Powers.of(power), size);
            shows("- " + Powers.of(power), -size);
        }
        for (String outside : new String[] {Powers.of(21), Powers.of(24), Powers.of(-17), Powers.of(-20), MOST + " + " + LEAST}) {
            range(outside);
            range("- ( " + outside + " )");
        }
        range("- " + MOST + " - " + LEAST);
        shows(MOST + " - " + LEAST, LARGEST - 1);
        shows(LEAST + " - " + MOST, 1 - LARGEST);
        shows("0", 0);
        shows("3/16 ( " + Powers.of(-12) + " )", 3);
        range("3/16 ( " + Powers.of(-13) + " )");
        range("24/16 ( " + LEAST + " )");
        range("15/16 ( " + LEAST + " )");
    }

    private static void wholes() {
        Check.sentence("a result (of a whole EXPR ..) is no NUMBER: error RANGE");
        range(MOST + " + 1/16");
        range("- " + MOST + " - 1/16");
        shows(MOST + " + 0", LARGEST);
        shows("1/16 - 1/16 - " + MOST, -LARGEST);
        // In brackets it is whole, too, though what follows would make a number of it.
        range("( " + MOST + " + " + LEAST + " ) - " + LEAST);
        range("0 between ( 0 , " + MOST + " + " + LEAST + " )");
        range("1 between ( " + MOST + " + " + LEAST + " , 0 )");
    }

    private static void terms() {
        Check.sentence("a result (of a .. TERM ..) is no NUMBER: error RANGE");
        range("2 ( " + MOST + " ) - " + MOST);
        range(MOST + " - 2 ( " + MOST + " )");
        range("17/16 ( " + MOST + " ) - " + MOST);
        range("-17/16 ( " + MOST + " ) + " + MOST);
        range("8/16 ( " + LEAST + " ) + 8/16 ( " + LEAST + " )");
        range("8/16 ( " + LEAST + " ) - 8/16 ( " + LEAST + " )");
        range("2 between ( 0 , " + MOST + " ) - " + MOST);
        range("-17/16 between ( 0 , " + MOST + " ) + " + MOST);
        range("8/16 between ( 0 , " + LEAST + " ) + 8/16 between ( 0 , " + LEAST + " )");
        range("- 2 ( " + MOST + " ) + " + MOST);
        range("- - 2 between ( 0 , " + MOST + " ) - " + MOST);
        shows("- - " + MOST, LARGEST);
        shows("- ( 3 )", -3 * Powers.ONE);
        shows("- - - ( 3 )", -3 * Powers.ONE);
        shows("- 1 between ( 3 , 2 )", -2 * Powers.ONE);
        shows("- - 1 between ( 3 , 2 )", 2 * Powers.ONE);
        shows("- x3 - ( - x3 )", 0);
        shows("-1 ( " + MOST + " )", -LARGEST);
        shows("16000/16 ( 8/16 ) + -16000/16 ( 8/16 )", 0);
    }

    private static void primaries() {
        Check.sentence("a result (of a .. PRIMARY ..) is no NUMBER: error RANGE");
        String over = "( " + MOST + " + " + LEAST + " )";
        range("0 " + over);
        range("1/16 " + over);
        range("- 0 " + over);
        range(over + " - " + over);
        range("0 ( 0 ( 0 ( 0 " + over + " ) ) )");
        shows("0 ( " + MOST + " )", 0);
        shows("1/16 ( " + MOST + " )", LARGEST / 16);
    }

    private static void factors() {
        Check.sentence("or a factor or number in it");
        for (int v = 0; v < 12; v++) {
            String x = "x" + v;
            unknown(Powers.times(20, x));
            unknown("- " + Powers.times(20, x));
            range(Powers.times(20, x) + " + " + Powers.times(-16, x));
            range("- " + Powers.times(20, x) + " - " + Powers.times(-16, x));
            unknown(Powers.times(-16, x));
            range(Powers.times(-17, x));
            range("0 ( " + Powers.times(21, x) + " )");
            range("0 ( - " + Powers.times(-17, x) + " )");
            range("2 between ( 0 , " + Powers.times(20, x) + " )");
            range("8/16 between ( " + Powers.times(-16, x) + " , 0 )");
            // A term's factor, though the sum's would be right.
            range(Powers.times(21, x) + " - " + Powers.times(20, x));
            range(Powers.times(20, x) + " - " + Powers.times(21, x));
            range(Powers.times(-17, x) + " + " + Powers.times(-17, x));
            range("2 between ( 0 , " + Powers.times(20, x) + " ) - " + Powers.times(20, x));
            range("- 17/16 ( " + Powers.times(20, x) + " ) + " + Powers.times(20, x));
            shows(Powers.times(20, x) + " - " + Powers.times(20, x), 0);
            // The number beside a right factor.
            range(x + " + " + MOST + " + " + LEAST);
            range("2 ( " + x + " + " + MOST + " ) - 2 " + x + " - " + MOST);
        }
        // One wrong factor among right ones.
        range("x0 + x1 + " + Powers.times(21, "x2") + " + x11");
        range("2 ( x0 + " + Powers.times(20, "x7") + " + 1 )");
    }

    private static void onTheWay() {
        Check.sentence("partial sums .. need not be NUMBERS");
        shows(MOST + " + " + MOST + " - " + MOST, LARGEST);
        shows("- " + MOST + " - " + LEAST + " + " + LEAST, -LARGEST);
        partialSumsOfFactors();
        GlyphCompiler x = new GlyphCompiler();
        Script.run(x, "x0 = " + MOST + " ;");
        Script.macro(x, 0, 0, Script.repeat("+ x0", 20));
        Script.macro(x, 1, 0, Script.repeat("- x0", 20));
        Script.run(x, "show 3 @0 @0 @0 @1 @1 @1 ;", GlyphCompiler.OK, 243);
        Check.due("shown(0)", x.shown(0), 3 * Powers.ONE);
        Script.run(x, "show 0 @1 @1 @1 @0 @0 @0 + x0 ;", GlyphCompiler.OK, 245);
        Check.due("shown(0)", x.shown(0), LARGEST);
        Script.run(x, "show 0 @0 @0 @0 @0 @0 @0 @0 ;", GlyphCompiler.RANGE, 282);
        Check.sentence("b - a .. on the way, need not be");
        shows("8/16 between ( - " + MOST + " , " + MOST + " )", 0);
        shows("1/16 between ( " + MOST + " , - " + MOST + " )", LARGEST - LARGEST / 8);
        shows("1 between ( - " + MOST + " , " + MOST + " )", LARGEST);
        shows("0 between ( " + MOST + " , - " + MOST + " )", LARGEST);
        range("17/16 between ( - " + MOST + " , " + MOST + " )");
        range("-1/16 between ( - " + MOST + " , " + MOST + " )");
        Check.sentence("t * (b - a) on the way, need not be");
        // 1000 * 2^11 is more than 2^20.
        shows("1000 between ( - " + MOST + " , " + Powers.of(11) + " - " + MOST + " )", 1000 * (Powers.ONE << 11) - LARGEST);
        shows("1000 between ( " + MOST + " , " + MOST + " - " + Powers.of(11) + " )", LARGEST - 1000 * (Powers.ONE << 11));
        shows("512 between ( - " + MOST + " , " + Powers.of(12) + " - " + MOST + " )", LARGEST);
        range("512 between ( - " + MOST + " , " + Powers.of(12) + " + " + LEAST + " - " + MOST + " )");
        unknown("1000 between ( - " + Powers.times(20, "x3") + " , " + Powers.times(11, "x3") + " - " + Powers.times(20, "x3") + " )");
        // The result must be one, and is not if only t * (b - a) is too fine.
        range("8/16 between ( 1 , 1 + " + LEAST + " )");
        for (int t = -15; t <= 15; t++) {
            if (t == 0) {
                shows("0/16 between ( 1 , " + LEAST + " )", Powers.ONE);
            } else {
                range(t + "/16 between ( 1 , " + LEAST + " )");
                range(t + "/16 between ( " + LEAST + " , 0 )");
                range(t + "/16 ( " + LEAST + " )");
            }
        }
        shows("8/16 between ( 1 , 1 + " + Powers.of(-15) + " )", Powers.ONE + 1);
    }

    private static void partialSumsOfFactors() {
        String most = Powers.times(20, "x4");
        unknown(most + " + " + most + " - " + most);
        shows(most + " + " + most + " - " + most + " - " + most, 0);
    }

    /** Three variables that are not free: the largest number, the least size below 0, and a form. */
    private static GlyphCompiler notFree() {
        GlyphCompiler x = new GlyphCompiler();
        Script.run(x, "x0 = " + MOST + " ; x1 = - " + LEAST + " ; x2 = 3 ( " + Powers.times(18, "x3") + " ) + 1 ;");
        return x;
    }

    private static void replaced() {
        Check.sentence("DEPENDENT and KNOWN ones replaced by what they equal");
        Script.show(notFree(), "x0", LARGEST);
        Script.show(notFree(), "x0 + x1", LARGEST - 1);
        Script.show(notFree(), "x2 - 3 ( " + Powers.times(18, "x3") + " )", Powers.ONE);
        fails(notFree(), "x0 - x1", GlyphCompiler.RANGE);
        fails(notFree(), "0 ( x0 - x1 )", GlyphCompiler.RANGE);
        fails(notFree(), "17/16 x0", GlyphCompiler.RANGE);
        fails(notFree(), "8/16 x1", GlyphCompiler.RANGE);
        fails(notFree(), "0 between ( 8/16 x1 , 0 )", GlyphCompiler.RANGE);
        fails(notFree(), "x2", GlyphCompiler.UNKNOWN);
        fails(notFree(), "2 x2", GlyphCompiler.RANGE);
        fails(notFree(), "x2 + " + Powers.times(18, "x3"), GlyphCompiler.UNKNOWN);
        fails(notFree(), "x2 + " + Powers.times(18, "x3") + " + " + Powers.times(-16, "x3"), GlyphCompiler.RANGE);
        fails(notFree(), "x2 + x0", GlyphCompiler.RANGE);
    }

    private static void noted() {
        Check.sentence("show: a FORM without factors is noted, else error UNKNOWN.");
        for (int v = 0; v < 12; v++) {
            unknown("x" + v);
            unknown(Powers.times(-16, "x" + v));
            shows("x" + v + " - x" + v, 0);
            shows("0 x" + v, 0);
            shows("1 between ( x" + v + " , 2 )", 2 * Powers.ONE);
            unknown("8/16 between ( x" + v + " , 2 )");
        }
        unknown("x0 - x1");
        unknown("x0 + x11 - x0");
    }

    private static void kept() {
        Check.sentence("The k-th number noted by show back, 0 being the newest");
        GlyphCompiler x = new GlyphCompiler();
        Script.run(x, "show 1 ; show 2 ; show 0 ; show - 3 ;");
        long[] newest = {-3 * Powers.ONE, 0, 2 * Powers.ONE, Powers.ONE};
        for (int k = 0; k < 4; k++) {
            Check.due("shown(" + k + ")", x.shown(k), newest[k]);
        }
        Check.sentence("NONE if there is none.");
        Check.due("shown(0) of a new object", new GlyphCompiler().shown(0), GlyphCompiler.NONE);
        for (int k : new int[] {4, 5, 7, 8, 9, -1, Integer.MIN_VALUE, Integer.MAX_VALUE}) {
            Check.due("shown(" + k + ")", x.shown(k), GlyphCompiler.NONE);
        }
        fails(new GlyphCompiler(), "x0", GlyphCompiler.UNKNOWN);
        Check.sentence("the last 8 are kept");
        for (int n = 5; n <= 17; n++) {
            Script.run(x, "show " + n + " ;");
            Check.due("shown(0)", x.shown(0), n * Powers.ONE);
            Check.due("shown(7)", x.shown(7), n < 8 ? GlyphCompiler.NONE : n < 12 ? newest[3 - (n - 8)] : (n - 7) * Powers.ONE);
            Check.due("shown(8)", x.shown(8), GlyphCompiler.NONE);
            Check.due("shown(" + n + ")", x.shown(n), GlyphCompiler.NONE);
            Check.due("count(6)", x.count(6), n);
        }
        // As many at once as a row holds.
        Script.macro(x, 0, 1, "show $0 ; show $0 ; show $0 ;");
        Script.run(x, Script.repeat("@0 ( 30 )", 10), GlyphCompiler.OK, 90);
        Check.due("shown(7)", x.shown(7), 30 * Powers.ONE);
        Check.due("count(6)", x.count(6), 47);
    }
}
