/** The boundary cases of equals and EQUATING, and of promises 7 and 9 to 11, sentence by sentence. */
final class EquationBoundsTest {
    private static final long ONE = Powers.ONE;
    private static final String MOST = Powers.of(20);
    private static final String LEAST = Powers.of(-16);

    public static void main(String[] args) {
        states();
        noFactors();
        powersOfTwo();
        greatestSize();
        leastOfEqualOnes();
        replacedInAll();
        rangeOfWhatIsSolved();
        rangeOfWhatIsReplaced();
        chains();
        differences();
        forget();
        outOfRange();
        Check.end();
    }

    private static GlyphCompiler after(String text) {
        GlyphCompiler x = new GlyphCompiler();
        Script.run(x, text);
        return x;
    }

    /** The equations must leave the variables so: "x2 = 3 + 65536 x1" has its number first, all in 65536ths. */
    private static void leaves(String text, String want) {
        GlyphCompiler x = after(text);
        Check.due("variables after " + text, Look.variables(x), want);
    }

    private static void fails(GlyphCompiler x, String text, int error) {
        String before = Look.results(x);
        Script.run(x, text, error, Script.tokens(text).size() - 1);
        Check.due("what is left by " + text, Look.results(x), before);
    }

    private static void fails(String text, int error) {
        fails(new GlyphCompiler(), text, error);
    }

    private static void seen(GlyphCompiler x, int v, int state, long number, long factor) {
        Check.due("state(" + v + ")", x.state(v), state);
        Check.due("number(" + v + ")", x.number(v), number);
        Check.due("factor(" + v + ", 5)", x.factor(v, 5), factor);
    }

    private static void states() {
        Check.sentence("0 FREE, 1 DEPENDENT, 2 KNOWN.");
        GlyphCompiler x = after("2 x0 = 3 x5 - 6 ; x1 = - 7 ; x2 = 0 ; 2 x3 = 3 x5 ;");
        Check.due("state(0)", x.state(0), 1);
        Check.due("state(1)", x.state(1), 2);
        Check.due("state(2)", x.state(2), 2);
        Check.due("state(3)", x.state(3), 1);
        Check.due("state(4)", x.state(4), 0);
        Check.due("state(5)", x.state(5), 0);
        Check.sentence("The number of VARIABLE v's FORM (the value of a KNOWN one), in 65536ths; NONE if it is FREE or there is none.");
        Check.due("number(0)", x.number(0), -3 * ONE);
        Check.due("number(1)", x.number(1), -7 * ONE);
        Check.due("number(2) of a known 0", x.number(2), 0);
        Check.due("number(3) of a form without one", x.number(3), 0);
        Check.due("number(4)", x.number(4), GlyphCompiler.NONE);
        Check.due("number(5)", x.number(5), GlyphCompiler.NONE);
        Check.sentence("The factor of VARIABLE w 0 .. 11 in the FORM of v, in 65536ths; NONE if v is not DEPENDENT");
        for (int w = 0; w < 12; w++) {
            Check.due("factor(0, " + w + ")", x.factor(0, w), w == 5 ? 3 * ONE / 2 : 0);
            for (int v : new int[] {1, 2, 4, 5}) {
                Check.due("factor(" + v + ", " + w + ")", x.factor(v, w), GlyphCompiler.NONE);
            }
        }
        Check.sentence("DEPENDENT: it equals a FORM over FREE ones, not all factors 0; or KNOWN.");
        Script.run(x, "x5 = 2 ;");
        seen(x, 0, 2, 0, GlyphCompiler.NONE);
        seen(x, 3, 2, 3 * ONE, GlyphCompiler.NONE);
        seen(x, 5, 2, 2 * ONE, GlyphCompiler.NONE);
    }

    private static void noFactors() {
        Check.sentence("D has no factors: its number is 0: nothing");
        String[] nothing = {"0 = 0 ;", "x0 = x0 ;", "x0 + x1 = x1 + x0 ;", "0 x3 = 0 ;", MOST + " = " + MOST + " ;", LEAST + " = " + LEAST + " ;",
            "2 x0 - x1 = x0 + x0 - x1 ;", Powers.times(20, "x2") + " = " + Powers.times(20, "x2") + " ;"};
        for (String text : nothing) {
            GlyphCompiler x = after(text);
            Check.due("variables after " + text, Look.variables(x), "");
            Check.due("count(7)", x.count(7), 1);
        }
        leaves("x0 = 3 ; x1 = x2 ; x0 = 3 ; x2 = x1 ; x1 - x2 + x0 = 3 ;", " x0 = 196608 x1 = 0 + 65536 x2");
        Check.sentence("else error CONFLICT.");
        for (String text : new String[] {"0 = 1 ;", LEAST + " = 0 ;", "0 = - " + LEAST + " ;", "0 = " + LEAST + " ;", "x0 = x0 + " + LEAST + " ;",
            "x0 + x1 = x1 + x0 - 1 ;", MOST + " = - " + MOST + " ;", "- " + MOST + " = " + MOST + " ;", "0 x3 = 1 ;"}) {
            fails(text, GlyphCompiler.CONFLICT);
        }
        GlyphCompiler x = after("x0 = 3 ; x1 = x2 ;");
        fails(x, "x0 = 4 ;", GlyphCompiler.CONFLICT);
        fails(x, "x0 = 3 + " + LEAST + " ;", GlyphCompiler.CONFLICT);
        fails(x, "x1 = x2 + 1 ;", GlyphCompiler.CONFLICT);
    }

    private static void powersOfTwo() {
        Check.sentence("the VARIABLES whose factor's size is a power of 2 (2^-16 to 2^20)");
        for (int power = -16; power <= 20; power++) {
            for (int v = 0; v < 12; v++) {
                String term = Powers.times(power, "x" + v);
                leaves(term + " = " + Powers.of(power) + " ;", " x" + v + " = 65536");
                leaves("- " + term + " = " + Powers.of(power) + " ;", " x" + v + " = -65536");
            }
        }
        Check.sentence("none: error HARD.");
        for (int power = -16; power <= 18; power++) {
            for (int factor : new int[] {3, -3}) {
                fails(factor + " ( " + Powers.times(power, "x4") + " ) = 0 ;", GlyphCompiler.HARD);
            }
        }
        for (int odd = 3; odd < 64; odd += 2) {
            fails(odd + "/16 x0 = 0 ;", GlyphCompiler.HARD);
            fails("5 x1 = " + odd + "/16 x0 + 1 ;", GlyphCompiler.HARD);
        }
        fails(Powers.times(20, "x7") + " - " + Powers.times(-16, "x7") + " = 0 ;", GlyphCompiler.HARD);
        fails(Powers.times(19, "x7") + " + " + Powers.times(-16, "x7") + " = 0 ;", GlyphCompiler.HARD);
        // 2^21 is a power of 2, but beyond those; D may have it, as it need not be of numbers.
        String twice = Powers.times(20, "x3") + " = - " + Powers.times(20, "x3");
        fails(twice + " ;", GlyphCompiler.HARD);
        fails("- " + twice.replace("= -", "=") + " ;", GlyphCompiler.HARD);
        fails(twice + " + 3 x2 ;", GlyphCompiler.HARD);
        leaves(twice + " + " + Powers.times(20, "x4") + " ;", " x4 = 0 + 131072 x3");
        // The number's size does not matter.
        leaves("x0 = 3 ;", " x0 = 196608");
        fails("3 x0 = 8 ;", GlyphCompiler.HARD);
        // Everything is known: there are no factors.
        fails(after("x0 = 1 ;"), "3 x0 = 4 ;", GlyphCompiler.CONFLICT);
    }

    private static void greatestSize() {
        Check.sentence("the one with the greatest size");
        for (int power = -15; power <= 20; power++) {
            leaves(Powers.times(power, "x5") + " + " + Powers.times(power - 1, "x2") + " = 0 ;", " x5 = 0 + -32768 x2");
            leaves(Powers.times(power, "x5") + " = " + Powers.times(power - 1, "x8") + " ;", " x5 = 0 + 32768 x8");
            leaves(Powers.times(power - 1, "x5") + " = " + Powers.times(power, "x8") + " ;", " x8 = 0 + 32768 x5");
        }
        // The size, not the value, and greater ones that are no powers do not count.
        leaves("x0 - 2 x1 = 0 ;", " x1 = 0 + 32768 x0");
        leaves("-2 x0 + x1 = 0 ;", " x0 = 0 + 32768 x1");
        leaves("3 x0 + x1 + 8/16 x2 = 0 ;", " x1 = 0 + -196608 x0 + -32768 x2");
        leaves("1000 x0 + 1/16 x1 = 1 ;", " x1 = 1048576 + -1048576000 x0");
        leaves("x0 + 2 x1 + 4 x2 + 8 x3 + 16 x4 = 0 ;", " x4 = 0 + -4096 x0 + -8192 x1 + -16384 x2 + -32768 x3");
        // What counts is the factor in D, not in one of the expressions.
        leaves("4 x0 + 2 x1 = 3 x0 ;", " x1 = 0 + -32768 x0");
        leaves("3 x0 + 4 x1 = x0 + 8 x2 - 4 x0 + 2 x0 ;", " x2 = 0 + 32768 x0 + 32768 x1");
    }

    private static void leastOfEqualOnes() {
        Check.sentence("of equal ones the least, is v");
        for (int v = 0; v < 12; v++) {
            for (int w = v + 1; w < 12; w++) {
                leaves("x" + v + " = x" + w + " ;", " x" + v + " = 0 + 65536 x" + w);
                leaves("x" + w + " = x" + v + " ;", " x" + v + " = 0 + 65536 x" + w);
                leaves("2 x" + w + " + 2 x" + v + " = 2 ;", " x" + v + " = 65536 + -65536 x" + w);
            }
        }
        leaves("x11 + x4 - x7 = 0 ;", " x4 = 0 + 65536 x7 + -65536 x11");
    }

    private static void replacedInAll() {
        Check.sentence("in the FORMS of all DEPENDENT ones v is replaced");
        // Eleven variables that all depend on x0.
        StringBuilder text = new StringBuilder();
        for (int v = 1; v < 12; v++) {
            text.append("2 x").append(v).append(" = x0 ; ");
        }
        GlyphCompiler x = after(text.toString());
        for (int v = 1; v < 12; v++) {
            Check.due("factor(" + v + ", 0)", x.factor(v, 0), ONE / 2);
        }
        Check.sentence("those that have no factors any more being KNOWN");
        Script.run(x, "x0 = 6 ;");
        for (int v = 1; v < 12; v++) {
            seen(x, v, 2, 3 * ONE, GlyphCompiler.NONE);
        }
        leaves("2 x1 = x0 ; 2 x2 = 3 x0 + 1 ; 2 x3 = x4 ; x0 = x5 ;",
            " x0 = 0 + 65536 x5 x1 = 0 + 32768 x5 x2 = 32768 + 98304 x5 x3 = 0 + 32768 x4");
        // One that loses its last factor, beside one that keeps one, beside one that never had it.
        leaves("2 x2 = x0 - x1 ; 2 x3 = x0 + x1 ; 2 x4 = 3 x5 ; x0 = x1 + 8 ;",
            " x0 = 524288 + 65536 x1 x2 = 262144 x3 = 262144 + 65536 x1 x4 = 0 + 98304 x5");
        leaves("2 x1 = x0 ; x0 = 0 ;", " x0 = 0 x1 = 0");
        replacedWhateverItsFactor();
    }

    /** A factor of each size, of both signs: a power of 2, and one that is none. */
    private static void replacedWhateverItsFactor() {
        for (int power = -16; power < 0; power++) {
            String times = Powers.times(power, "x0");
            String back = " x0 = " + Powers.of(-power) + " ;";
            leaves("x1 = " + times + " ;" + back, " x0 = " + (ONE << -power) + " x1 = " + ONE);
            leaves("x1 = - " + times + " ;" + back, " x0 = " + (ONE << -power) + " x1 = " + -ONE);
        }
        for (int power = -16; power <= 18; power++) {
            long factor = power < 0 ? 3 * (ONE >> -power) : 3 * (ONE << power);
            String times = "3 ( " + Powers.times(power, "x0") + " )";
            leaves("x1 = " + times + " ; x0 = x2 + 1 ;", " x0 = " + ONE + " + " + ONE + " x2 x1 = " + factor + " + " + factor + " x2");
            leaves("x1 = - " + times + " ; x0 = 1 ;", " x0 = " + ONE + " x1 = " + -factor);
        }
    }

    private static void rangeOfWhatIsSolved() {
        Check.sentence("A factor or number that is no NUMBER: RANGE.");
        leaves("1/16 x0 = " + Powers.of(16) + " ;", " x0 = " + (ONE << 20));
        fails("1/16 x0 = " + Powers.of(16) + " + " + LEAST + " ;", GlyphCompiler.RANGE);
        leaves("-1/16 x0 = " + Powers.of(16) + " ;", " x0 = " + -(ONE << 20));
        fails("-1/16 x0 = " + Powers.of(16) + " + " + LEAST + " ;", GlyphCompiler.RANGE);
        leaves("2 x0 = " + Powers.of(-15) + " ;", " x0 = 1");
        fails("2 x0 = " + LEAST + " ;", GlyphCompiler.RANGE);
        leaves("-2 x0 = " + Powers.of(-15) + " ;", " x0 = -1");
        fails("-2 x0 = " + LEAST + " ;", GlyphCompiler.RANGE);
        leaves(Powers.times(-16, "x0") + " = 16 ;", " x0 = " + (ONE << 20));
        fails(Powers.times(-16, "x0") + " = 257/16 ;", GlyphCompiler.RANGE);
        leaves(Powers.times(20, "x0") + " = 16 ;", " x0 = 1");
        fails(Powers.times(20, "x0") + " = 8 ;", GlyphCompiler.RANGE);
        leaves("1/16 x1 = 3 ( " + Powers.times(14, "x0") + " ) ;", " x1 = 0 + " + (3 * ONE << 18) + " x0");
        fails("1/16 x1 = 3 ( " + Powers.times(15, "x0") + " ) ;", GlyphCompiler.RANGE);
        fails("-1/16 x1 = 3 ( " + Powers.times(15, "x0") + " ) ;", GlyphCompiler.RANGE);
        leaves("2 x1 = 6 ( " + Powers.times(-16, "x0") + " ) ;", " x1 = 0 + 3 x0");
        fails("2 x1 = 3 ( " + Powers.times(-16, "x0") + " ) ;", GlyphCompiler.RANGE);
        fails("2 x1 + 3 ( " + Powers.times(-16, "x0") + " ) = 0 ;", GlyphCompiler.RANGE);
    }

    private static void rangeOfWhatIsReplaced() {
        // In the forms of those that depend on what is solved, each with its bound.
        String large = "x1 = 3 ( " + Powers.times(18, "x0") + " ) ;";
        fails(after(large), "x0 = 2 ;", GlyphCompiler.RANGE);
        fails(after(large), "x0 = - 2 ;", GlyphCompiler.RANGE);
        fails(after(large), "2 x0 = 3 x2 ;", GlyphCompiler.RANGE);
        leaves(large + " x0 = 1 ;", " x0 = 65536 x1 = " + (3 * ONE << 18));
        leaves(large + " x0 = x2 ;", " x0 = 0 + 65536 x2 x1 = 0 + " + (3 * ONE << 18) + " x2");
        String added = "x1 = 3 x0 + " + MOST + " ;";
        fails(after(added), "x0 = " + LEAST + " ;", GlyphCompiler.RANGE);
        leaves(added + " x0 = 0 ;", " x0 = 0 x1 = " + (ONE << 20));
        leaves(added + " x0 = - " + LEAST + " ;", " x0 = -1 x1 = " + ((ONE << 20) - 3));
        String least = "x1 = " + Powers.times(-16, "x0") + " ;";
        fails(after(least), "x0 = " + LEAST + " ;", GlyphCompiler.RANGE);
        fails(after(least), "x0 = 1 + " + LEAST + " ;", GlyphCompiler.RANGE);
        fails(after(least), "2 x0 = 3 x2 ;", GlyphCompiler.RANGE);
        leaves(least + " x0 = - 3 ;", " x0 = -196608 x1 = -3");
        leaves(least + " x0 = x2 ;", " x0 = 0 + 65536 x2 x1 = 0 + 1 x2");
        String fine = "2 x1 = 3 x0 ;";
        fails(after(fine), "x0 = " + LEAST + " ;", GlyphCompiler.RANGE);
        fails(after(fine), "x0 = 3 ( " + Powers.times(-16, "x2") + " ) ;", GlyphCompiler.RANGE);
        leaves(fine + " x0 = " + Powers.of(-15) + " ;", " x0 = 2 x1 = 3");
        // The first is right and the last is not: all stay as they were.
        GlyphCompiler x = after("2 x1 = 3 x0 ; x11 = 3 ( " + Powers.times(18, "x0") + " ) ;");
        fails(x, "x0 = 2 ;", GlyphCompiler.RANGE);
        Check.due("state(0)", x.state(0), 0);
        Check.due("state(1)", x.state(1), 1);
    }

    private static void chains() {
        Check.sentence("each EXPR is equated to the one before it, from left to right");
        leaves("x0 = x1 = x2 = 5 ;", " x0 = 327680 x1 = 327680 x2 = 327680");
        leaves("x3 = x1 = 2 x2 ;", " x1 = 0 + 65536 x3 x2 = 0 + 32768 x3");
        fails("1 = 2 = 3 x0 ;", GlyphCompiler.CONFLICT);
        fails("3 x0 = 1 = 2 ;", GlyphCompiler.HARD);
        fails("x0 = 1 = 1 = 2 ;", GlyphCompiler.CONFLICT);
        for (int v = 0; v < 12; v++) {
            // What the first of them did is taken back, for each variable, were it free or not before.
            fails("x" + v + " = 1 = 2 ;", GlyphCompiler.CONFLICT);
            fails(after("2 x" + v + " = 3 x" + (v + 5) % 12 + " ;"), "x" + (v + 5) % 12 + " = 2 = 3 ;", GlyphCompiler.CONFLICT);
        }
        Check.sentence("all worked out before the first is equated");
        // With x0 known to be 0 these would be numbers, but they are worked out while it is free.
        fails("x0 = 0 = " + Powers.times(20, "x0") + " + " + Powers.times(20, "x0") + " ;", GlyphCompiler.RANGE);
        fails("x0 = 0 = " + Powers.times(-17, "x0") + " ;", GlyphCompiler.RANGE);
        fails("x0 = 0 = 0 ( " + Powers.times(21, "x0") + " ) ;", GlyphCompiler.RANGE);
        // With x0 known to be 2 this would be no number on the way, but it is worked out while x0 is free.
        leaves("x0 = 2 = " + Powers.times(20, "x0") + " - " + Powers.times(19, "x0") + " - " + Powers.times(19, "x0") + " + 2 ;", " x0 = 131072");
        Check.sentence("and then with what has become DEPENDENT or KNOWN replaced again.");
        leaves("x0 = 3 = x0 + x1 ;", " x0 = 196608 x1 = 0");
        leaves("x0 = x1 = x0 - x1 + 4 ;", " x0 = 262144 x1 = 262144");
        leaves("2 x2 = x3 = x2 - 8 ;", " x2 = -524288 x3 = -1048576");
        fails("x0 = 3 = x0 + 1 ;", GlyphCompiler.CONFLICT);
    }

    private static void differences() {
        Check.sentence("both with what is DEPENDENT or KNOWN replaced, which must be NUMBERS");
        fails("x0 = 2 = " + Powers.times(20, "x0") + " ;", GlyphCompiler.RANGE);
        fails("x0 = 2 = " + Powers.times(20, "x0") + " = 0 ;", GlyphCompiler.RANGE);
        fails("x0 = 1 = " + Powers.times(20, "x0") + " ;", GlyphCompiler.CONFLICT);
        fails("x0 = " + LEAST + " = 1/16 x0 ;", GlyphCompiler.RANGE);
        fails("x0 = 1/16 = " + Powers.times(-12, "x0") + " ;", GlyphCompiler.CONFLICT);
        fails("x0 = 3 x1 = " + Powers.times(20, "x0") + " ;", GlyphCompiler.RANGE);
        // What is replaced is looked at when its turn comes, after a conflict to the left of it.
        fails("x0 = 2 = 3 = " + Powers.times(20, "x0") + " ;", GlyphCompiler.CONFLICT);
        fails("x0 = 2 = " + Powers.times(20, "x0") + " = 3 = 4 ;", GlyphCompiler.RANGE);
        Check.sentence("D itself need not be");
        leaves(MOST + " + 2 x0 = - " + MOST + " ;", " x0 = " + -(ONE << 20));
        leaves(MOST + " - 2 x0 = - " + MOST + " ;", " x0 = " + (ONE << 20));
        fails(MOST + " + x0 = - " + MOST + " ;", GlyphCompiler.RANGE);
        leaves(Powers.times(20, "x1") + " + 2 x0 = - " + Powers.times(20, "x1") + " - " + Powers.times(19, "x1") + " + "
            + Powers.times(19, "x1") + " ;", " x0 = 0 + " + -(ONE << 20) + " x1");
        fails(Powers.times(20, "x1") + " + x0 = - " + Powers.times(20, "x1") + " ;", GlyphCompiler.RANGE);
        leaves(MOST + " + 4 x0 = - " + MOST + " + 4 x1 ;", " x0 = " + -(ONE << 19) + " + 65536 x1");
    }

    private static void forget() {
        Check.sentence("All VARIABLES become FREE: OK.");
        GlyphCompiler x = new GlyphCompiler();
        Check.due("forget() of a new object", x.forget(), GlyphCompiler.OK);
        Check.due("variables", Look.variables(x), "");
        StringBuilder text = new StringBuilder();
        for (int v = 0; v < 12; v++) {
            text.append("x").append(v).append(" = ").append(v).append(" ; ");
        }
        Script.run(x, text.toString());
        Check.due("forget()", x.forget(), GlyphCompiler.OK);
        for (int v = 0; v < 12; v++) {
            seen(x, v, 0, GlyphCompiler.NONE, GlyphCompiler.NONE);
        }
        Check.due("forget() again", x.forget(), GlyphCompiler.OK);
        // Nothing is left of what they were: each may be anything again.
        Script.run(x, "x0 = x1 + x2 ; 2 x3 = 3 x4 ;");
        Check.due("variables", Look.variables(x), " x0 = 0 + 65536 x1 + 65536 x2 x3 = 0 + 98304 x4");
        x.forget();
        Script.run(x, "x2 = 1 ; x4 = 2 ;");
        Check.due("variables", Look.variables(x), " x2 = 65536 x4 = 131072");
    }

    private static void outOfRange() {
        GlyphCompiler x = new GlyphCompiler();
        StringBuilder text = new StringBuilder();
        for (int v = 0; v < 12; v++) {
            text.append(v == 5 ? "" : "2 x" + v + " = 3 x5 ; ");
        }
        Script.run(x, text.toString());
        Check.sentence("VARIABLE v 0 .. 11");
        Check.due("state(0)", x.state(0), 1);
        Check.due("state(11)", x.state(11), 1);
        int[] outside = {-1, 12, 13, Integer.MIN_VALUE, Integer.MAX_VALUE};
        for (int v : outside) {
            Check.due("state(" + v + ")", x.state(v), GlyphCompiler.REFUSED);
            Check.due("number(" + v + ")", x.number(v), GlyphCompiler.NONE);
        }
        Check.sentence("or v or w is out of range.");
        Check.due("factor(11, 5)", x.factor(11, 5), 3 * ONE / 2);
        Check.due("factor(0, 11)", x.factor(0, 11), 0);
        Check.due("factor(11, 0)", x.factor(11, 0), 0);
        for (int v : outside) {
            Check.due("factor(" + v + ", 5)", x.factor(v, 5), GlyphCompiler.NONE);
            Check.due("factor(0, " + v + ")", x.factor(0, v), GlyphCompiler.NONE);
            Check.due("factor(11, " + v + ")", x.factor(11, v), GlyphCompiler.NONE);
            Check.due("factor(" + v + ", " + v + ")", x.factor(v, v), GlyphCompiler.NONE);
        }
    }
}
