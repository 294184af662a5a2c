/** Promises 7, 9, 10 and 11, and promise 5 as far as equations go. */
final class EquationTest {
    private static final long ONE = 65536;
    private static final String TINY = "1/16 ( 1/16 ( 1/16 ( 1/16 ) ) )";
    private static final String TINY_X0 = "1/16 ( 1/16 ( 1/16 ( 1/16 x0 ) ) )";
    private static final String LARGEST = "( 1000 ( 1000 ) + 48 ( 1000 ) + 576 )";
    private static final String LARGEST_X = "1000 ( 1000 x%d ) + 48 ( 1000 x%d ) + 576 x%d";

    public static void main(String[] args) {
        known();
        dependent();
        whichIsSolved();
        sizesOfFactors();
        hardAndConflict();
        replacedEverywhere();
        wideProducts();
        chains();
        chainsAreTakenBack();
        rangeOfSolutions();
        rangeOfReplaced();
        forget();
        outOfRange();
        Check.end();
    }

    private static GlyphCompiler after(String text) {
        GlyphCompiler x = new GlyphCompiler();
        Script.run(x, text);
        return x;
    }

    private static void free(GlyphCompiler x, int v) {
        Check.due("state(" + v + ")", x.state(v), 0);
        Check.due("number(" + v + ")", x.number(v), GlyphCompiler.NONE);
        Check.due("factor(" + v + ", 0)", x.factor(v, 0), GlyphCompiler.NONE);
        Check.due("factor(" + v + ", " + v + ")", x.factor(v, v), GlyphCompiler.NONE);
    }

    private static void known(GlyphCompiler x, int v, long number) {
        Check.due("state(" + v + ")", x.state(v), 2);
        Check.due("number(" + v + ")", x.number(v), number);
        for (int w = 0; w < 12; w++) {
            Check.due("factor(" + v + ", " + w + ")", x.factor(v, w), GlyphCompiler.NONE);
        }
    }

    /** The factors come as pairs of a variable and its factor; all others are 0. */
    private static void dependent(GlyphCompiler x, int v, long number, long... factors) {
        Check.due("state(" + v + ")", x.state(v), 1);
        Check.due("number(" + v + ")", x.number(v), number);
        for (int w = 0; w < 12; w++) {
            long want = 0;
            for (int f = 0; f < factors.length; f += 2) {
                want = factors[f] == w ? factors[f + 1] : want;
            }
            Check.due("factor(" + v + ", " + w + ")", x.factor(v, w), want);
        }
    }

    private static void fails(GlyphCompiler x, String text, int error) {
        Script.run(x, text, error, Script.tokens(text).size() - 1);
    }

    private static void known() {
        GlyphCompiler x = after("x0 = 5 ; -7 = x1 ; 2 x2 = 3 ; 1/16 x3 = 1000 ; x11 = 0 ; - x4 = 1/16 ;");
        known(x, 0, 5 * ONE);
        known(x, 1, -7 * ONE);
        known(x, 2, 3 * ONE / 2);
        known(x, 3, 16000 * ONE);
        known(x, 4, -4096);
        known(x, 11, 0);
        free(x, 5);
        Check.due("count(7)", x.count(7), 6);
        Script.run(x, "x0 = 5 ; 2 x0 + x1 = 3 ; x5 = x0 + x1 ;");
        known(x, 5, -2 * ONE);
    }

    private static void dependent() {
        GlyphCompiler x = after("x2 = x5 + 3 ;");
        dependent(x, 2, 3 * ONE, 5, ONE);
        free(x, 5);
        x = after("3 x1 + 2 x2 - x3 = 4 ;");
        dependent(x, 2, 2 * ONE, 1, -3 * ONE / 2, 3, ONE / 2);
        free(x, 1);
        free(x, 3);
        x = after("x6 - x7 = x7 + x8 - 1/16 ;");
        dependent(x, 7, 2048, 6, ONE / 2, 8, -ONE / 2);
        x = after("x0 = x0 ; x1 + x2 = x2 + x1 ; 0 x3 = 0 ;");
        for (int v = 0; v < 4; v++) {
            free(x, v);
        }
        Check.due("count(7)", x.count(7), 3);
    }

    private static void whichIsSolved() {
        dependent(after("x3 + x1 = 0 ;"), 1, 0, 3, -ONE);
        dependent(after("x1 + x3 = 0 ;"), 1, 0, 3, -ONE);
        dependent(after("x3 - x1 = 0 ;"), 1, 0, 3, ONE);
        dependent(after("x1 + 2 x3 = 0 ;"), 3, 0, 1, -ONE / 2);
        dependent(after("x1 - 2 x3 = 0 ;"), 3, 0, 1, ONE / 2);
        dependent(after("4 x1 - 2 x3 = 0 ;"), 1, 0, 3, ONE / 2);
        dependent(after("2 x1 + 2 x3 + 2 x0 = 2 ;"), 0, ONE, 1, -ONE, 3, -ONE);
        dependent(after("1/16 x1 + 3 x3 = 2 ;"), 1, 32 * ONE, 3, -48 * ONE);
        dependent(after("7 x1 + 8/16 x3 + 6 x4 = 2 ;"), 3, 4 * ONE, 1, -14 * ONE, 4, -12 * ONE);
        dependent(after("x1 + 3 x3 = x3 + 5 ;"), 3, 5 * ONE / 2, 1, -ONE / 2);
    }

    private static void sizesOfFactors() {
        GlyphCompiler x = after(TINY_X0 + " = 3/16 ( 1/16 ( 1/16 ( 1/16 ) ) ) ;");
        known(x, 0, 3 * ONE);
        x = after("- " + TINY_X0 + " = 3/16 ( 1/16 ( 1/16 ( 1/16 ) ) ) ;");
        known(x, 0, -3 * ONE);
        x = after(String.format(LARGEST_X, 1, 1, 1) + " = " + LARGEST + " ;");
        known(x, 1, ONE);
        x = after(String.format(LARGEST_X, 1, 1, 1) + " = " + String.format(LARGEST_X, 2, 2, 2) + " + 16 x0 ;");
        dependent(x, 1, 0, 2, ONE, 0, 1);
    }

    private static void hardAndConflict() {
        GlyphCompiler x = new GlyphCompiler();
        fails(x, "3 x0 = 6 ;", GlyphCompiler.HARD);
        fails(x, "3 x0 + 5 x1 = 7 x2 ;", GlyphCompiler.HARD);
        fails(x, "x0 + 2 x0 = 6 ;", GlyphCompiler.HARD);
        fails(x, "1 = 2 ;", GlyphCompiler.CONFLICT);
        fails(x, "x0 = x0 + " + TINY + " ;", GlyphCompiler.CONFLICT);
        for (int v = 0; v < 12; v++) {
            free(x, v);
        }
        Check.due("count(7)", x.count(7), 0);
        Script.run(x, "x0 = 2 x1 + 3 ;");
        fails(x, "x1 = x0 ; x1 = 5 ;", GlyphCompiler.CONFLICT);
        known(x, 0, -3 * ONE);
        known(x, 1, -3 * ONE);
        Check.due("count(7)", x.count(7), 2);
        // Twice the largest number is a power of 2, but not one that a variable may be solved by.
        x = new GlyphCompiler();
        String doubled = String.format(LARGEST_X, 3, 3, 3) + " = - 1000 ( 1000 x3 ) - 48 ( 1000 x3 ) - 576 x3";
        fails(x, doubled + " ;", GlyphCompiler.HARD);
        fails(x, doubled + " + 3 x4 ;", GlyphCompiler.HARD);
        fails(x, doubled + " + x4 ;", GlyphCompiler.RANGE);
        free(x, 3);
        free(x, 4);
    }

    private static void replacedEverywhere() {
        GlyphCompiler x = after("x0 = x1 + x2 ; x3 = 2 x1 - x2 ;");
        // 2 x1 - x2 - x3 is solved for x1, the greatest factor.
        dependent(x, 1, 0, 2, ONE / 2, 3, ONE / 2);
        dependent(x, 0, 0, 2, 3 * ONE / 2, 3, ONE / 2);
        Script.run(x, "x2 = 4 ;");
        dependent(x, 1, 2 * ONE, 3, ONE / 2);
        dependent(x, 0, 6 * ONE, 3, ONE / 2);
        Script.run(x, "x1 = 0 ;");
        known(x, 3, -4 * ONE);
        known(x, 0, 4 * ONE);
        known(x, 1, 0);
        x = after("x0 = x1 + x2 ; x4 = x1 + 1 ; x1 = x3 - x2 ;");
        // With x1 = x4 - 1 (the least of the equal ones is x1): x4 = x3 - x2 + 1, solved for x2.
        dependent(x, 1, -ONE, 4, ONE);
        dependent(x, 2, ONE, 3, ONE, 4, -ONE);
        dependent(x, 0, 0, 3, ONE);
        x = after("x0 = x1 - x2 ; x1 = x2 + 9 ;");
        known(x, 0, 9 * ONE);
        dependent(x, 1, 9 * ONE, 2, ONE);
    }

    private static void wideProducts() {
        // x1's factor in x0 and what x1 becomes are both large in 65536ths; their product fills more than a long.
        GlyphCompiler x = after("x0 = 1000 ( 1000 x1 ) + 5 ;");
        Check.due("state(1) is free, or x1 is solved", x.state(1) + x.state(0), 1);
        fails(x, "x1 = 1000 ( 1000 x2 ) ;", GlyphCompiler.RANGE);
        fails(x, "x1 = 1000 ( 1000 ) ;", GlyphCompiler.RANGE);
        dependent(x, 0, 5 * ONE, 1, 1000000 * ONE);
        Script.run(x, "x1 = 1 + " + TINY + " ;");
        known(x, 0, 1000005 * ONE + 1000000);
        // Products beyond 64 bits that take one another away.
        x = after("x1 = 1000 ( 1000 ) = x2 = 1000 ( 1000 x1 ) - 1000 ( 1000 x2 ) + 1000 ( 1000 ) ;");
        known(x, 1, 1000000 * ONE);
        known(x, 2, 1000000 * ONE);
        // Products whose low 64 bits alone would be a number.
        x = new GlyphCompiler();
        fails(x, "x1 = " + LARGEST + " = 1000 ( 1000 x1 ) + 48 ( 1000 x1 ) + 576 x1 ;", GlyphCompiler.RANGE);
        fails(x, "x1 = - " + LARGEST + " = 1000 ( 1000 x1 ) + 48 ( 1000 x1 ) + 576 x1 ;", GlyphCompiler.RANGE);
        fails(x, "x1 = 512 ( 512 ) = 512 ( 512 x1 ) ;", GlyphCompiler.RANGE);
        fails(x, "x1 = " + LARGEST + " = 64 ( 64 x1 ) = 0 ;", GlyphCompiler.RANGE);
        free(x, 1);
    }

    private static void chains() {
        GlyphCompiler x = after("x0 = x1 = x2 = 3 ;");
        for (int v = 0; v < 3; v++) {
            known(x, v, 3 * ONE);
        }
        Check.due("count(7)", x.count(7), 1);
        x = after("3 = x0 = x1 ;");
        known(x, 0, 3 * ONE);
        known(x, 1, 3 * ONE);
        // x0 + x1 = x0 makes x1 known, which is replaced in x0 = 2 x1 + 5.
        x = after("x0 + x1 = x0 = 2 x1 + 5 ;");
        known(x, 1, 0);
        known(x, 0, 5 * ONE);
        x = after("x0 = x1 = x0 = x1 ;");
        dependent(x, 0, 0, 1, ONE);
        x = new GlyphCompiler();
        Script.macro(x, 0, 0, Script.repeat("= x0", 20));
        Script.run(x, "x0 " + Script.repeat("@0", 7) + Script.repeat("= x0", 8) + "= 4 ;", GlyphCompiler.OK, 300);
        known(x, 0, 4 * ONE);
    }

    private static void chainsAreTakenBack() {
        GlyphCompiler x = after("x5 = x6 + 1 ;");
        fails(x, "x0 = 1 = 2 ;", GlyphCompiler.CONFLICT);
        fails(x, "x0 = x6 = 2 = 3 ;", GlyphCompiler.CONFLICT);
        fails(x, "x0 = x6 = 3 x7 = 2 ;", GlyphCompiler.HARD);
        fails(x, "x6 = 1 = 1000 ( 1000 ) + 1000 ( 1000 ) ;", GlyphCompiler.RANGE);
        free(x, 0);
        free(x, 6);
        free(x, 7);
        dependent(x, 5, ONE, 6, ONE);
        Check.due("count(7)", x.count(7), 1);
        // The range of the expressions comes before the others.
        fails(x, "1 = 2 = 1000 ( 1000 ) + 1000 ( 1000 ) ;", GlyphCompiler.RANGE);
        fails(x, "3 x0 = 1 = 8/16 ( " + TINY + " ) ;", GlyphCompiler.RANGE);
        // Of the errors of equating the first from the left comes.
        fails(x, "3 x0 = 1 = 2 ;", GlyphCompiler.HARD);
        fails(x, "1 = 2 = 3 x0 ;", GlyphCompiler.CONFLICT);
        fails(x, "x0 = 1000 ( 1000 ) = 1000 ( 1000 x0 ) = 3 ;", GlyphCompiler.RANGE);
        fails(x, "1 = 2 = x0 = 1000 ( 1000 ) = 1000 ( 1000 x0 ) ;", GlyphCompiler.CONFLICT);
        free(x, 0);
    }

    private static void rangeOfSolutions() {
        GlyphCompiler x = new GlyphCompiler();
        fails(x, "1/16 x0 = 1000 ( 1000 ) ;", GlyphCompiler.RANGE);
        fails(x, "2 x0 = " + TINY + " ;", GlyphCompiler.RANGE);
        fails(x, "2 x1 = " + TINY_X0 + " ;", GlyphCompiler.RANGE);
        fails(x, "1/16 x1 = 1000 ( 100 x0 ) ;", GlyphCompiler.RANGE);
        free(x, 0);
        free(x, 1);
        Script.run(x, "1/16 x0 = 65 ( 1000 ) + 536 ;");
        known(x, 0, ONE << 20);
        Script.run(x, "1/16 x1 = - 65 ( 1000 ) - 536 ;");
        known(x, 1, -ONE << 20);
        fails(x, "1/16 x2 = 65 ( 1000 ) + 536 + 1/16 ;", GlyphCompiler.RANGE);
        // The difference need not be a number if what comes of it is one.
        Script.run(x, "1000 ( 1000 ) + 2 x3 = - 1000 ( 1000 ) ;");
        known(x, 3, -1000000 * ONE);
        fails(x, "1000 ( 1000 ) + x4 = - 1000 ( 1000 ) ;", GlyphCompiler.RANGE);
        Script.run(x, "1000 ( 1000 x5 ) + 2 x6 = - 1000 ( 1000 x5 ) ;");
        dependent(x, 6, 0, 5, -1000000 * ONE);
    }

    private static void rangeOfReplaced() {
        GlyphCompiler x = after("x0 = 1000 x1 ; x2 = 1/16 x1 ;");
        dependent(x, 2, 0, 1, ONE / 16);
        fails(x, "x1 = 1000 ( 2 ) ;", GlyphCompiler.RANGE);
        free(x, 1);
        x = after("x0 = 1000 ( 3 x1 ) ;");
        fails(x, "x1 = 350 ;", GlyphCompiler.RANGE);
        free(x, 1);
        dependent(x, 0, 0, 1, 3000 * ONE);
        Script.run(x, "x1 = 349 ;");
        known(x, 0, 1047000 * ONE);
        x = after("x0 = 1/16 x1 ;");
        fails(x, "x1 = " + TINY + " ;", GlyphCompiler.RANGE);
        free(x, 1);
        Script.run(x, "x1 = 1/16 ;");
        known(x, 0, 256);
        x = after("x1 = " + TINY_X0 + " ;");
        fails(x, "x0 = " + TINY + " ;", GlyphCompiler.RANGE);
        dependent(x, 1, 0, 0, 1);
        Script.run(x, "x0 = -1 ;");
        known(x, 1, -1);
        // In a chain the forms that are equated must be numbers after the replacing.
        x = new GlyphCompiler();
        fails(x, "x0 = 2 = 1000 ( 1000 x0 ) ;", GlyphCompiler.RANGE);
        fails(x, "x0 = " + TINY + " = 1/16 x0 ;", GlyphCompiler.RANGE);
        free(x, 0);
    }

    private static void forget() {
        GlyphCompiler x = after("x0 = 1 ; x1 = x2 + 1 ; show 3 ; fill ( 0 , 0 ) line ( 0 , 9 ) line ( 9 , 9 ) line cycle ;");
        Script.feed(x, "x0 = 2 ;");
        int black = x.count(1);
        Check.due("forget()", x.forget(), GlyphCompiler.OK);
        for (int v = 0; v < 12; v++) {
            free(x, v);
        }
        Check.due("count(0) stays", x.count(0), 4);
        Check.due("count(1) stays", x.count(1), black);
        Check.due("count(6) stays", x.count(6), 1);
        Check.due("count(7) stays", x.count(7), 4);
        Check.due("place() stays", x.place(), 34);
        Check.due("run()", x.run(), GlyphCompiler.OK);
        known(x, 0, 2 * ONE);
        Script.run(x, "x1 = x2 ;");
        dependent(x, 1, 0, 2, ONE);
    }

    private static void outOfRange() {
        GlyphCompiler x = after("x0 = x1 ; x11 = 3 ;");
        for (int v : new int[] {-1, 12, Integer.MIN_VALUE, Integer.MAX_VALUE}) {
            Check.due("state(" + v + ")", x.state(v), GlyphCompiler.REFUSED);
            Check.due("number(" + v + ")", x.number(v), GlyphCompiler.NONE);
            Check.due("factor(" + v + ", 0)", x.factor(v, 0), GlyphCompiler.NONE);
            Check.due("factor(0, " + v + ")", x.factor(0, v), GlyphCompiler.NONE);
        }
        Check.due("factor(0, 11)", x.factor(0, 11), 0);
        Check.due("factor(0, 1)", x.factor(0, 1), ONE);
    }
}
