/** The boundary cases of fill and erase, and of promises 8, 12, 13 and 15, sentence by sentence. */
final class PictureBoundsTest {
    /** Curves with a piece through a middle, or past it as near as can be, in 16ths: found by trying many. */
    private static final int[][] NEAR_MIDDLES = {
        {346, 41, 153, 171, 337, 103, 344, 8}, {420, 219, 130, 215, 498, 297, 232, 104}, {304, 10, 505, 214, 152, 215, 344, 24},
        {154, 83, 471, 368, 418, 383, 378, 223}, {325, 378, 249, 288, 296, 172, 53, 375}, {349, 254, 480, 322, 490, 105, 126, 350},
        {339, 368, 375, 208, 212, 156, 344, 89}, {196, 71, 394, 293, 157, 369, 28, 340}, {308, 181, 277, 365, 133, 30, 70, 63},
        {77, 217, 50, 144, 390, 126, 85, 136}, {74, 229, 170, 121, 261, 129, 8, 56}, {154, 104, 429, 71, 193, 210, 463, 160},
        {144, 42, 445, 186, 424, 207, 88, 373}, {345, 42, 412, 36, 337, 253, 293, 173}};

    public static void main(String[] args) {
        legs();
        unknown();
        grid();
        range();
        numberByNumber();
        outline();
        curves();
        points();
        windings();
        colours();
        clean();
        stretch();
        edges();
        Check.end();
    }

    private static GlyphCompiler after(String text) {
        GlyphCompiler x = new GlyphCompiler();
        Script.run(x, text);
        return x;
    }

    /** The corners of a rectangle, in 16ths, as a path. */
    private static String box(int left, int low, int right, int high) {
        String l = left + "/16";
        String r = right + "/16";
        return "( " + l + " , " + low + "/16 ) line ( " + r + " , " + low + "/16 ) line ( " + r + " , " + high + "/16 ) line ( " + l + " , "
            + high + "/16 ) line cycle ;";
    }

    private static void paints(String text, String want) {
        Check.due("the picture after " + text, Look.picture(after(text)), want);
    }

    private static void legs() {
        Check.sentence("fill, erase: more than 12 LEGs: error LONG.");
        String line = "line ( 4 , 0 )";
        String curve = "curve ( 4 , 0 ) curve ( 4 , 0 ) curve ( 4 , 0 )";
        String rest = "line ( 4 , 2 ) line ( 0 , 2 ) line cycle ;";
        for (int curves = 0; curves <= 10; curves++) {
            for (int more = 0; more <= 2; more++) {
                GlyphCompiler x = new GlyphCompiler();
                Script.macro(x, 0, 0, line);
                Script.macro(x, 1, 0, curve);
                String calls = Script.repeat("@1", curves) + Script.repeat("@0", 9 + more - curves < 0 ? 0 : 9 + more - curves);
                int legs = 2 + Script.tokens(calls).size();
                int end = 6 + 18 * curves + 6 * (legs - 2 - curves) + 14;
                Script.run(x, "fill ( 0 , 0 ) " + calls + rest, legs > 12 ? GlyphCompiler.LONG : GlyphCompiler.OK, legs > 12 ? end : end + 1);
                Check.due("the picture of " + legs, Look.picture(x), legs > 12 ? "" : "0:0. 4# 1:0. 4# ");
                Check.due("count(7)", x.count(7), legs > 12 ? 0 : 1);
            }
        }
        GlyphCompiler x = new GlyphCompiler();
        Script.macro(x, 0, 0, line);
        Script.macro(x, 1, 0, curve);
        Script.run(x, "erase ( 4 , 0 ) " + Script.repeat("@0", 12) + "line cycle ;", GlyphCompiler.OK, 6 + 72 + 3);
        Script.run(x, "erase ( 4 , 0 ) " + Script.repeat("@0", 13) + "line cycle ;", GlyphCompiler.LONG, 6 + 78 + 2);
        Script.run(x, "erase ( 4 , 0 ) " + Script.repeat("@1", 12) + "line cycle ;", GlyphCompiler.OK, 6 + 216 + 3);
        Script.run(x, "erase ( 4 , 0 ) " + Script.repeat("@1", 13) + "line cycle ;", GlyphCompiler.LONG, 6 + 234 + 2);
        Script.run(x, "fill ( 4 , 0 ) " + Script.repeat("@1", 15) + "@0 line cycle ;", GlyphCompiler.LONG, 6 + 270 + 6 + 2);
        Script.run(x, "fill ( 4 , 0 ) " + Script.repeat("@0", 48) + "line cycle ;", GlyphCompiler.LONG, 6 + 288 + 2);
        // Before what is asked of the numbers.
        Script.run(x, "fill ( x0 , 0 ) " + Script.repeat("@0", 13) + "line cycle ;", GlyphCompiler.LONG, 6 + 78 + 2);
        Script.run(x, "fill ( x0 , 0 ) " + Script.repeat("@0", 12) + "line cycle ;", GlyphCompiler.UNKNOWN, 6 + 72 + 2);
        Script.run(x, "fill ( 0 , 97 ) " + Script.repeat("@0", 13) + "line cycle ;", GlyphCompiler.LONG, 6 + 78 + 2);
        lastLeg();
    }

    /** Twelve legs of which the last bends, drawn after and before others that do not. */
    private static void lastLeg() {
        double[] corner = {8, 0};
        Area area = new Area(Area.curve(new double[][] {corner, {0, 0}, {0, 8}, {8, 8}}));
        Area straight = new Area(corner, new double[] {8, 8}, new double[] {0, 8});
        String last = "curve ( 0 , 0 ) curve ( 0 , 8 ) curve ( 8 , 8 ) line cycle ;";
        for (String leg : new String[] {"line ( 8 , 0 )", "curve ( 8 , 0 ) curve ( 8 , 0 ) curve ( 8 , 0 )"}) {
            GlyphCompiler x = new GlyphCompiler();
            Script.macro(x, 0, 0, leg);
            int length = 6 + 11 * Script.tokens(leg).size();
            String eleven = "fill ( 8 , 0 ) " + Script.repeat("@0", 11);
            Script.run(x, eleven + last, GlyphCompiler.OK, length + 21);
            area.due(x, eleven + last);
            x.clean();
            String ten = "fill ( 8 , 0 ) " + Script.repeat("@0", 10) + "line ( 8 , 8 ) line ( 0 , 8 ) line cycle ;";
            Script.run(x, ten, GlyphCompiler.OK, length - Script.tokens(leg).size() + 15);
            straight.due(x, ten);
            x.clean();
            Script.run(x, eleven + last, GlyphCompiler.OK, length + 21);
            area.due(x, eleven + last);
            Script.run(x, eleven + last.replace("8 )", "x0 )"), GlyphCompiler.UNKNOWN, length + 20);
            Script.run(x, eleven + last.replace("( 8 , 8 )", "( 8 , 97 )"), GlyphCompiler.RANGE, length + 20);
        }
        Check.due("points of the curve > 30", area.size() > 30, true);
    }

    /** The number stands in each place of a pair in turn, all others being right. */
    private static void number(String number, int error) {
        String[] places = {"N , 1", "1 , N"};
        for (String place : places) {
            for (int pair = 0; pair < 8; pair++) {
                StringBuilder text = new StringBuilder(pair % 2 == 0 ? "fill" : "erase");
                String[] joins = {" ", " line ", " curve ", " curve ", " curve ", " curve ", " curve ", " curve "};
                for (int p = 0; p < 8; p++) {
                    text.append(joins[p]).append("( ").append(p == pair ? place.replace("N", number) : "1 , 1").append(" )");
                }
                text.append(" line cycle ;");
                int length = Script.tokens(text.toString()).size();
                GlyphCompiler x = new GlyphCompiler();
                Script.run(x, text.toString(), error, error == GlyphCompiler.OK ? length : length - 1);
                Check.due("count(7)", x.count(7), error == GlyphCompiler.OK ? 1 : 0);
            }
        }
    }

    private static void unknown() {
        Check.sentence("must be FORMs without factors, else error UNKNOWN");
        number("x0", GlyphCompiler.UNKNOWN);
        number("x11 + 1", GlyphCompiler.UNKNOWN);
        number(Powers.times(-16, "x4"), GlyphCompiler.UNKNOWN);
        number("x4 - x4", GlyphCompiler.OK);
        number("0 x4 + 1", GlyphCompiler.OK);
        GlyphCompiler x = new GlyphCompiler();
        Script.run(x, "2 x1 = x0 ;");
        Script.run(x, "fill ( x1 , 0 ) line cycle ;", GlyphCompiler.UNKNOWN, 8);
        Script.run(x, "x0 = 4 ; fill ( x1 , x0 ) line cycle ;");
    }

    private static void grid() {
        Check.sentence("be multiples of 1/16, else error GRID");
        number("1/16", GlyphCompiler.OK);
        number("-1/16", GlyphCompiler.OK);
        number("1535/16", GlyphCompiler.OK);
        number("8/16 ( 1/16 ) + 8/16 ( 1/16 )", GlyphCompiler.OK);
        for (int power = -16; power <= -5; power++) {
            number(Powers.of(power), GlyphCompiler.GRID);
            number("- " + Powers.of(power), GlyphCompiler.GRID);
            number("5 + " + Powers.of(power), GlyphCompiler.GRID);
        }
        number(Powers.of(-4), GlyphCompiler.OK);
    }

    private static void range() {
        Check.sentence("and be -32 .. 96, else error RANGE.");
        for (String inside : new String[] {"-32", "96", "-511/16", "1535/16", "0"}) {
            number(inside, GlyphCompiler.OK);
        }
        for (String outside : new String[] {"-513/16", "1537/16", "-33", "97", "-1000", "1000", Powers.of(20), "- " + Powers.of(20)}) {
            number(outside, GlyphCompiler.RANGE);
        }
        // The grid is looked at before the range, and whether it is known before both.
        number("96 + " + Powers.of(-16), GlyphCompiler.GRID);
        number("- 32 - " + Powers.of(-16), GlyphCompiler.GRID);
        number("1000 + x0", GlyphCompiler.UNKNOWN);
        number(Powers.of(-16) + " + x0", GlyphCompiler.UNKNOWN);
    }

    private static void numberByNumber() {
        Check.sentence("Then, number by number, those of all PAIRs");
        String[] numbers = {"x0", Powers.of(-5), "97"};
        int[] errors = {GlyphCompiler.UNKNOWN, GlyphCompiler.GRID, GlyphCompiler.RANGE};
        for (int first = 0; first < 3; first++) {
            for (int second = 0; second < 3; second++) {
                String one = numbers[first];
                String two = numbers[second];
                for (String text : new String[] {"fill ( " + one + " , " + two + " ) line cycle ;",
                    "erase ( 1 , " + one + " ) line ( " + two + " , 1 ) line cycle ;",
                    "fill ( 1 , 1 ) curve ( 1 , 1 ) curve ( 1 , " + one + " ) curve ( " + two + " , 1 ) line cycle ;"}) {
                    Script.run(new GlyphCompiler(), text, errors[first], Script.tokens(text).size() - 1);
                }
            }
        }
    }

    private static void outline() {
        Check.sentence("from the first PAIR along the LEGs, and straight back to it");
        paints("fill ( 3 , 3 ) line cycle ;", "");
        paints("fill ( 3 , 3 ) line ( 9 , 9 ) line cycle ;", "");
        paints("fill ( 0 , 0 ) line ( 4 , 0 ) line ( 4 , 2 ) line ( 0 , 2 ) line cycle ;", "0:0. 4# 1:0. 4# ");
        paints("fill ( 0 , 0 ) line ( 4 , 0 ) line ( 4 , 2 ) line ( 0 , 2 ) line ( 0 , 0 ) line cycle ;", "0:0. 4# 1:0. 4# ");
        paints("fill ( 0 , 0 ) line ( 8 , 0 ) line ( 0 , 8 ) line cycle ;",
            "0:0. 7# 1:0. 6# 2:0. 5# 3:0. 4# 4:0. 3# 5:0. 2# 6:0. 1# ");
        paints("fill ( 8 , 0 ) line ( 0 , 0 ) line ( 8 , 8 ) line cycle ;",
            "0:0. 8# 1:1. 7# 2:2. 6# 3:3. 5# 4:4. 4# 5:5. 3# 6:6. 2# 7:7. 1# ");
        // The numbers of an earlier path are gone, and so are its pieces.
        GlyphCompiler later = new GlyphCompiler();
        Script.run(later, "fill ( 1 , 1 ) line ( 2 , 2 ) line ( x0 , 97 ) line cycle ;", GlyphCompiler.UNKNOWN, 20);
        Script.run(later, "fill ( 1 , 1 ) line ( 2 , 2 ) line cycle ;");
        Script.run(later, "fill ( 1 , 1 ) line cycle ;");
        GlyphCompiler x = after("fill " + box(0, 0, 64, 32) + " erase " + box(0, 0, 512, 384));
        Script.run(x, "fill ( 3 , 3 ) line ( 9 , 9 ) line cycle ;");
        Check.due("the picture", Look.picture(x), "");
    }

    /** The path of a curve with these numbers, in 16ths, and straight back: how many points it fills. */
    private static int curve(int[] sixteenths) {
        StringBuilder text = new StringBuilder("fill");
        double[][] four = new double[4][];
        for (int p = 0; p < 4; p++) {
            int x = sixteenths[2 * p];
            int y = sixteenths[2 * p + 1];
            text.append(p == 0 ? " ( " : " curve ( ").append(x).append("/16 , ").append(y).append("/16 )");
            four[p] = new double[] {x / 16.0, y / 16.0};
        }
        text.append(" line cycle ;");
        Area area = new Area(Area.curve(four));
        area.due(after(text.toString()), text.toString());
        return area.size();
    }

    private static void curves() {
        Check.sentence("straight from point to point of the nine with t = 0/8, 1/8, .. 8/8");
        // Whatever bends: the way there on one side, the way back straight.
        double[][][] curves = {
            {{0, 0}, {8, 0}, {8, 0}, {8, 8}}, {{4, 20}, {30, 20}, {-10, 2}, {16, 2}}, {{16, 0}, {40, 12}, {-8, 12}, {16, 23}},
            {{-32, -32}, {96, -32}, {96, 96}, {-32, 96}}, {{0.5, 0.5}, {24.5, 0.5}, {24.5, 16.5}, {0.5, 16.5}},
            {{-32, 12}, {-32, 96}, {96, 96}, {96, 12}}, {{0.0625, 3.5}, {31.9375, -32}, {0, 96}, {31.5, 3.5}}, {{5, 5}, {5, 5}, {25, 20}, {25, 5}}};
        for (double[][] curve : curves) {
            int[] sixteenths = new int[8];
            for (int n = 0; n < 8; n++) {
                sixteenths[n] = (int) (16 * curve[n / 2][n % 2]);
            }
            Check.due("points of a curve > 20", curve(sixteenths) > 20, true);
        }
        Check.sentence("(1-t)^3 P + 3 (1-t)^2 t Q + 3 (1-t) t^2 R + t^3 S, exactly");
        for (int[] curve : NEAR_MIDDLES) {
            Check.due("points of a curve > 0", curve(curve) > 0, true);
        }
        // A curve that is a straight line, through the middles: they lie on it exactly, as on the line.
        paints("fill ( 8/16 , 0 ) line ( 6 , 0 ) line ( 6 , 3 ) curve ( 6 , 3 ) curve ( 8/16 , 3 ) curve ( 8/16 , 3 ) line cycle ;", "0:0. 6# 1:0. 6# 2:0. 6# ");
        paints("fill ( 9/16 , 0 ) line ( 6 , 0 ) line ( 6 , 3 ) curve ( 6 , 3 ) curve ( 9/16 , 3 ) curve ( 9/16 , 3 ) line cycle ;", "0:1. 5# 1:1. 5# 2:1. 5# ");
        paints("fill ( 0 , 0 ) curve ( 2 , 2 ) curve ( 4 , 4 ) curve ( 6 , 6 ) line ( 0 , 6 ) line cycle ;", "1:0. 1# 2:0. 2# 3:0. 3# 4:0. 4# 5:0. 5# ");
        paints("fill ( 0 , 0 ) curve ( 2 , 2 ) curve ( 4 , 4 ) curve ( 6 , 6 ) line ( 6 , 0 ) line cycle ;",
            "0:0. 6# 1:1. 5# 2:2. 4# 3:3. 3# 4:4. 2# 5:5. 1# ");
        Check.sentence("from P with PAIRs Q, R, S");
        // After a curve, S is the P of what follows: a line back along it bounds nothing more.
        String there = "fill ( 4 , 4 ) curve ( 20 , 4 ) curve ( 20 , 4 ) curve ( 20 , 20 )";
        Area one = new Area(Area.curve(new double[][] {{4, 4}, {20, 4}, {20, 4}, {20, 20}}));
        one.due(after(there + " line cycle ;"), there);
        one.due(after(there + " line ( 4 , 4 ) line cycle ;"), there + " line back");
        Area none = new Area(new double[] {4, 4});
        none.due(after(there + " curve ( 20 , 4 ) curve ( 20 , 4 ) curve ( 4 , 4 ) line cycle ;"), there + " and back");
        double[][] both = Area.curve(new double[][] {{4, 4}, {20, 4}, {20, 4}, {20, 20}}, Area.curve(new double[][] {{20, 20}, {4, 20}, {4, 20}, {4, 4}}));
        new Area(both).due(after(there + " curve ( 4 , 20 ) curve ( 4 , 20 ) curve ( 4 , 4 ) line cycle ;"), there + " and round");
    }

    private static void points() {
        Check.sentence("THE PICTURE has points (i, j), i 0 .. 31, j 0 .. 23");
        GlyphCompiler x = after("fill " + box(-512, -512, 1536, 1536));
        Check.due("count(1)", x.count(1), 768);
        Check.sentence("Whether point (i, j) of the PICTURE is black; false out of range.");
        int[][] corners = {{0, 0}, {31, 0}, {0, 23}, {31, 23}};
        for (int[] corner : corners) {
            Check.due("black(" + corner[0] + ", " + corner[1] + ")", x.black(corner[0], corner[1]), true);
        }
        int[][] outside = {{-1, 0}, {0, -1}, {32, 0}, {0, 24}, {31, 24}, {32, 23}, {-1, 1}, {-1, 23}, {32, -1}, {32, 22}, {23, 31}, {0, 31},
            {Integer.MIN_VALUE, 0}, {Integer.MAX_VALUE, 0}, {0, Integer.MIN_VALUE}, {0, Integer.MAX_VALUE}, {1 << 27, 1 << 27}, {-32, 1}, {64, -1}};
        for (int[] point : outside) {
            Check.due("black(" + point[0] + ", " + point[1] + ")", x.black(point[0], point[1]), false);
        }
        for (int[] corner : corners) {
            int i = 16 * corner[0];
            int j = 16 * corner[1];
            GlyphCompiler one = after("fill " + box(i, j, i + 16, j + 16));
            Check.due("black(" + corner[0] + ", " + corner[1] + ")", one.black(corner[0], corner[1]), true);
            Check.due("count(1)", one.count(1), 1);
            // Beside it, out of the picture.
            one = after("fill " + box(i + (i == 0 ? -16 : 16), j, i + (i == 0 ? 0 : 32), j + 16));
            Check.due("count(1)", one.count(1), 0);
            one = after("fill " + box(i, j + (j == 0 ? -16 : 16), i + 16, j + (j == 0 ? 0 : 32)));
            Check.due("count(1)", one.count(1), 0);
        }
        Check.sentence("with the middle (i + 1/2, j + 1/2)");
        paints("fill " + box(39, 39, 41, 41), "2:2. 1# ");
        paints("fill " + box(40, 40, 41, 41), "2:2. 1# ");
        paints("fill " + box(39, 39, 40, 41), "");
        paints("fill " + box(39, 39, 41, 40), "");
        paints("fill " + box(41, 39, 42, 41), "");
        paints("fill " + box(39, 41, 41, 42), "");
        paints("fill " + box(41, 41, 55, 55), "");
    }

    private static void windings() {
        Check.sentence("1 if b <= y < d and .. > 0");
        // Sides through middles, first turned one way and then the other: the left and the low ones are inside.
        paints("fill ( 8/16 , 8/16 ) line ( 40/16 , 8/16 ) line ( 40/16 , 40/16 ) line ( 8/16 , 40/16 ) line cycle ;", "0:0. 2# 1:0. 2# ");
        Check.sentence("-1 if d <= y < b and it is < 0");
        paints("fill ( 8/16 , 8/16 ) line ( 8/16 , 40/16 ) line ( 40/16 , 40/16 ) line ( 40/16 , 8/16 ) line cycle ;", "0:0. 2# 1:0. 2# ");
        // Corners in middles: the piece that ends there leaves the row to the one that begins there.
        paints("fill ( 24/16 , 8/16 ) line ( 72/16 , 40/16 ) line ( 24/16 , 72/16 ) line cycle ;", "1:1. 2# 2:1. 3# 3:1. 2# ");
        paints("fill ( 24/16 , 8/16 ) line ( 24/16 , 72/16 ) line ( 72/16 , 40/16 ) line cycle ;", "1:1. 2# 2:1. 3# 3:1. 2# ");
        Check.sentence("else 0");
        // Level pieces, in the height of middles and not, count for nothing.
        paints("fill ( 0 , 24/16 ) line ( 9 , 24/16 ) line cycle ;", "");
        paints("fill ( 0 , 24/16 ) line ( 9 , 24/16 ) line ( 3 , 24/16 ) line ( 5 , 24/16 ) line cycle ;", "");
        paints("fill ( 0 , 0 ) line ( 4 , 0 ) line ( 4 , 24/16 ) line ( 2 , 24/16 ) line ( 2 , 3 ) line ( 0 , 3 ) line cycle ;",
            "0:0. 4# 1:0. 2# 2:0. 2# ");
        // Pieces beside, above and below the picture.
        paints("fill " + box(-512, 16, 32, 32), "1:0. 2# ");
        paints("fill " + box(480, 16, 1536, 32), "1:30. 2# ");
        paints("fill " + box(16, -512, 32, 16), "0:1. 1# ");
        paints("fill " + box(16, 368, 32, 1536), "23:1. 1# ");
        paints("fill " + box(-512, -512, 0, 1536) + " fill " + box(512, -512, 1536, 1536), "");
    }

    private static void colours() {
        Check.sentence("fill makes points with a WINDING other than 0 black, erase white.");
        String once = "( 0 , 0 ) line ( 4 , 0 ) line ( 4 , 2 ) line ( 0 , 2 ) ";
        String otherWay = "( 0 , 0 ) line ( 0 , 2 ) line ( 4 , 2 ) line ( 4 , 0 ) ";
        String two = "0:0. 4# 1:0. 4# ";
        for (String verb : new String[] {"fill ", "erase "}) {
            boolean fill = verb.equals("fill ");
            String first = fill ? "" : "fill " + box(0, 0, 64, 32) + " ";
            String nothing = fill ? "" : two;
            String all = fill ? two : "";
            paints(first + verb + once + "line cycle ;", all);
            paints(first + verb + otherWay + "line cycle ;", all);
            paints(first + verb + once + "line ( 0 , 0 ) " + once.substring(10) + "line cycle ;", all);
            paints(first + verb + otherWay + "line ( 0 , 0 ) " + otherWay.substring(10) + "line cycle ;", all);
            paints(first + verb + once + "line ( 0 , 0 ) " + otherWay.substring(10) + "line cycle ;", nothing);
            paints(first + verb + otherWay + "line ( 0 , 0 ) " + once.substring(10) + "line cycle ;", nothing);
        }
        // What is black stays black under fill, and white white under erase; what is outside stays as it is.
        paints("fill " + box(0, 0, 64, 32) + " fill " + box(32, 16, 96, 48), "0:0. 4# 1:0. 6# 2:2. 4# ");
        paints("fill " + box(0, 0, 64, 32) + " erase " + box(32, 16, 96, 48), "0:0. 4# 1:0. 2# ");
        paints("erase " + box(0, 0, 512, 384), "");
    }

    private static void clean() {
        Check.sentence("The PICTURE becomes white: OK.");
        GlyphCompiler x = new GlyphCompiler();
        Check.due("clean() of a new object", x.clean(), GlyphCompiler.OK);
        Script.run(x, "fill " + box(0, 0, 512, 384));
        Check.due("count(1)", x.count(1), 768);
        Check.due("clean()", x.clean(), GlyphCompiler.OK);
        Check.due("count(1)", x.count(1), 0);
        Check.due("the picture", Look.picture(x), "");
        Check.due("clean() again", x.clean(), GlyphCompiler.OK);
        Script.run(x, "fill " + box(0, 0, 16, 16));
        Check.due("the picture", Look.picture(x), "0:0. 1# ");
    }

    /** A column of the picture for every second i, from the first on. */
    private static GlyphCompiler columns(int first) {
        GlyphCompiler x = new GlyphCompiler();
        Script.macro(x, 0, 2, "fill ( $0 , 0 ) line ( $1 , 0 ) line ( $1 , 24 ) line ( $0 , 24 ) line cycle ;");
        for (int from = first; from < 32; from += 8) {
            StringBuilder text = new StringBuilder();
            for (int i = from; i < from + 8; i += 2) {
                text.append("@0 ( ").append(i).append(" , ").append(i + 1).append(" ) ");
            }
            Script.run(x, text.toString(), GlyphCompiler.OK, 108);
        }
        return x;
    }

    private static void stretch() {
        Check.sentence("of the runs of row j .. from i = 0 on: white, black, white, and so on, the first perhaps 0, up to the last black one");
        GlyphCompiler even = columns(0);
        GlyphCompiler odd = columns(1);
        for (int k = 0; k < 32; k++) {
            Check.due("stretch(11, " + k + ") of even columns", even.stretch(11, k), k == 0 ? 0 : 1);
            Check.due("stretch(11, " + k + ") of odd columns", odd.stretch(11, k), 1);
        }
        paints("fill " + box(0, 0, 512, 384), allRows("0. 32# "));
        paints("fill " + box(496, 16, 512, 32), "1:31. 1# ");
        paints("fill " + box(0, 16, 16, 32) + " fill " + box(496, 16, 512, 32), "1:0. 1# 30. 1# ");
        Check.sentence("-2 if there are not so many.");
        GlyphCompiler x = after("fill " + box(0, 0, 512, 16) + " fill " + box(32, 16, 64, 32));
        Check.due("stretch(0, 1)", x.stretch(0, 1), 32);
        Check.due("stretch(1, 1)", x.stretch(1, 1), 2);
        for (int k : new int[] {2, 3, 4, 31, 32, 33, 1000, Integer.MAX_VALUE}) {
            Check.due("stretch(0, " + k + ")", x.stretch(0, k), -2);
            Check.due("stretch(1, " + k + ")", x.stretch(1, k), -2);
        }
        Check.due("stretch(2, 0) of a white row", x.stretch(2, 0), -2);
        Check.due("stretch(2, 1) of a white row", x.stretch(2, 1), -2);
        for (int k : new int[] {32, 33, Integer.MAX_VALUE}) {
            Check.due("stretch(11, " + k + ") of even columns", even.stretch(11, k), -2);
            Check.due("stretch(11, " + k + ") of odd columns", odd.stretch(11, k), -2);
        }
        Check.sentence("row j 0 .. 23");
        for (int j : new int[] {-1, 24, 25, Integer.MIN_VALUE, Integer.MAX_VALUE}) {
            Check.due("stretch(" + j + ", 0)", even.stretch(j, 0), GlyphCompiler.REFUSED);
            Check.due("stretch(" + j + ", 40)", even.stretch(j, 40), GlyphCompiler.REFUSED);
        }
        Check.due("stretch(0, 1)", even.stretch(0, 1), 1);
        Check.due("stretch(23, 1)", even.stretch(23, 1), 1);
        Check.sentence("The k-th length, from 0");
        for (int k : new int[] {-1, -2, Integer.MIN_VALUE}) {
            Check.due("stretch(0, " + k + ")", even.stretch(0, k), GlyphCompiler.REFUSED);
        }
    }

    private static String allRows(String runs) {
        StringBuilder rows = new StringBuilder();
        for (int j = 0; j < 24; j++) {
            rows.append(j).append(':').append(runs);
        }
        return rows.toString();
    }

    private static void edges() {
        Check.sentence("2 to 5: the least i, the greatest i, the least j, the greatest j of a black point (-2 without one)");
        GlyphCompiler x = new GlyphCompiler();
        for (int what = 2; what <= 5; what++) {
            Check.due("count(" + what + ")", x.count(what), -2);
        }
        int[][] boxes = {{0, 0, 0, 0}, {31, 31, 23, 23}, {0, 31, 0, 23}, {5, 9, 7, 8}, {31, 31, 0, 0}, {0, 0, 23, 23}, {12, 12, 3, 20}};
        for (int[] b : boxes) {
            x = after("fill " + box(16 * b[0], 16 * b[2], 16 * b[1] + 16, 16 * b[3] + 16));
            Check.due("count(1)", x.count(1), (b[1] - b[0] + 1) * (b[3] - b[2] + 1));
            for (int what = 2; what <= 5; what++) {
                Check.due("count(" + what + ")", x.count(what), b[what - 2]);
            }
            Check.due("clean()", x.clean(), GlyphCompiler.OK);
            for (int what = 2; what <= 5; what++) {
                Check.due("count(" + what + ") after clean()", x.count(what), -2);
            }
        }
        // Points far apart, and the edges when the outermost are erased again.
        x = after("fill " + box(48, 160, 64, 176) + " fill " + box(320, 32, 336, 48) + " fill " + box(160, 320, 176, 336));
        int[] wide = {3, 3, 20, 2, 20};
        for (int what = 1; what <= 5; what++) {
            Check.due("count(" + what + ")", x.count(what), wide[what - 1]);
        }
        Script.run(x, "erase " + box(320, 32, 336, 48) + " erase " + box(160, 320, 176, 336));
        int[] left = {1, 3, 3, 10, 10};
        for (int what = 1; what <= 5; what++) {
            Check.due("count(" + what + ")", x.count(what), left[what - 1]);
        }
    }
}
