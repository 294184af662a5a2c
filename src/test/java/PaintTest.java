/** Promises 8, 12 and 13, promise 15 as far as the picture goes, and promise 5 as far as fill and erase go. */
final class PaintTest {
    private static final String SQUARE = "( 2 , 3 ) line ( 6 , 3 ) line ( 6 , 5 ) line ( 2 , 5 ) line cycle ;";

    public static void main(String[] args) {
        squares();
        blackPoints();
        middlesOnTheOutline();
        windings();
        curves();
        erasing();
        stretches();
        beyondThePicture();
        errorsOfNumbers();
        orderOfErrors();
        legs();
        cleaning();
        outOfRange();
        Check.end();
    }

    private static GlyphCompiler after(String text) {
        GlyphCompiler x = new GlyphCompiler();
        Script.run(x, text);
        return x;
    }

    /** Rows of the picture from the given one on: '#' is black; all other points must be white. */
    private static void picture(GlyphCompiler x, int first, String... rows) {
        int black = 0;
        boolean[][] want = new boolean[32][24];
        for (int row = 0; row < rows.length; row++) {
            for (int i = 0; i < rows[row].length(); i++) {
                want[i][first + row] = rows[row].charAt(i) == '#';
                black += want[i][first + row] ? 1 : 0;
            }
        }
        Check.due("the picture", Look.picture(x), Look.picture(want));
        Check.due("count(1)", x.count(1), black);
    }

    private static void edges(GlyphCompiler x, int leastI, int greatestI, int leastJ, int greatestJ) {
        Check.due("count(2)", x.count(2), leastI);
        Check.due("count(3)", x.count(3), greatestI);
        Check.due("count(4)", x.count(4), leastJ);
        Check.due("count(5)", x.count(5), greatestJ);
    }

    private static void squares() {
        GlyphCompiler x = after("fill " + SQUARE);
        picture(x, 3, "  ####", "  ####");
        edges(x, 2, 5, 3, 4);
        Check.due("count(7)", x.count(7), 1);
        // The other way round, and from another corner.
        picture(after("fill ( 6 , 5 ) line ( 6 , 3 ) line ( 2 , 3 ) line ( 2 , 5 ) line cycle ;"), 3, "  ####", "  ####");
        x = after("fill ( 0 , 0 ) line ( 32 , 0 ) line ( 32 , 24 ) line ( 0 , 24 ) line cycle ;");
        Check.due("count(1)", x.count(1), 768);
        edges(x, 0, 31, 0, 23);
        Check.due("stretch(7, 0)", x.stretch(7, 0), 0);
        Check.due("stretch(7, 1)", x.stretch(7, 1), 32);
        Check.due("stretch(7, 2)", x.stretch(7, 2), -2);
        picture(after("fill ( 3 , 4 ) line cycle ;"), 0);
        picture(after("fill ( 3 , 4 ) line ( 9 , 9 ) line cycle ;"), 0);
        x = after("fill ( 31 , 23 ) line ( 32 , 23 ) line ( 32 , 24 ) line ( 31 , 24 ) line cycle ;");
        edges(x, 31, 31, 23, 23);
        x = after("fill ( 0 , 0 ) line ( 1 , 0 ) line ( 1 , 1 ) line ( 0 , 1 ) line cycle ;");
        edges(x, 0, 0, 0, 0);
    }

    /** Every point by itself, a row to an object: the points of a picture are more than an object's calls. */
    private static void blackPoints() {
        for (int j = 0; j < 24; j++) {
            GlyphCompiler x = after("fill ( 0 , 0 ) line ( 24 , 24 ) line ( 0 , 24 ) line cycle ; "
                + "fill ( 32 , 0 ) line ( 32 , 8 ) line ( 29 , 8 ) line ( 29 , 0 ) line cycle ;");
            for (int i = 0; i < 32; i++) {
                Check.due("black(" + i + ", " + j + ")", x.black(i, j), i < j || i >= 29 && j < 8);
            }
        }
    }

    /** A middle on a left or lower side is inside, one on a right or upper side is not; the signs tell which. */
    private static void middlesOnTheOutline() {
        String square = "fill ( 8/16 , 8/16 ) line ( 40/16 , 8/16 ) line ( 40/16 , 40/16 ) line ( 8/16 , 40/16 ) line cycle ;";
        picture(after(square), 0, "##", "##");
        String turned = "fill ( 8/16 , 8/16 ) line ( 8/16 , 40/16 ) line ( 40/16 , 40/16 ) line ( 40/16 , 8/16 ) line cycle ;";
        picture(after(turned), 0, "##", "##");
        // The diagonal through the middles: points on it are not to the left of it.
        picture(after("fill ( 0 , 0 ) line ( 4 , 0 ) line ( 4 , 4 ) line cycle ;"), 0, "####", " ###", "  ##", "   #");
        picture(after("fill ( 0 , 0 ) line ( 4 , 4 ) line ( 0 , 4 ) line cycle ;"), 0, "", "#", "##", "###");
        // A 16th beside the middles.
        picture(after(square.replace("8/16 ,", "9/16 ,")), 0, " #", " #");
        picture(after(square.replace("40/16 ,", "41/16 ,")), 0, "###", "###");
        picture(after(square.replace(", 8/16", ", 9/16")), 1, "##", "");
        picture(after(square.replace(", 40/16", ", 41/16")), 0, "##", "##", "##");
    }

    private static void windings() {
        // A square within a square: turned alike the winding is 2, turned otherwise 0.
        String outer = "fill ( 0 , 0 ) line ( 6 , 0 ) line ( 6 , 6 ) line ( 0 , 6 ) line ( 0 , 0 ) ";
        String[] full = {"######", "######", "######", "######", "######", "######"};
        picture(after(outer + "line ( 2 , 2 ) line ( 4 , 2 ) line ( 4 , 4 ) line ( 2 , 4 ) line ( 2 , 2 ) line cycle ;"), 0, full);
        picture(after(outer + "line ( 2 , 2 ) line ( 2 , 4 ) line ( 4 , 4 ) line ( 4 , 2 ) line ( 2 , 2 ) line cycle ;"), 0,
            "######", "######", "##  ##", "##  ##", "######", "######");
        // A bow: one half turns one way and one the other.
        picture(after("fill ( 0 , 0 ) line ( 4 , 0 ) line ( 0 , 4 ) line ( 4 , 4 ) line cycle ;"), 0, "###", " #", " #", "###");
    }

    private static void curves() {
        // From the promise's own words: nine points, joined by straight pieces.
        String quarter = "fill ( 0 , 0 ) curve ( 8 , 0 ) curve ( 8 , 0 ) curve ( 8 , 8 ) line ( 0 , 8 ) line cycle ;";
        Area area = new Area(Area.curve(new double[][] {{0, 0}, {8, 0}, {8, 0}, {8, 8}}, new double[] {0, 8}));
        area.due(after(quarter), quarter);
        Check.due("points of a quarter > 40", area.size() > 40, true);
        // A curve whose four points are on a line is that line.
        picture(after("fill ( 0 , 0 ) line ( 6 , 0 ) curve ( 6 , 1 ) curve ( 6 , 2 ) curve ( 6 , 3 ) line ( 0 , 3 ) line cycle ;"), 0,
            "######", "######", "######");
        // With straight pieces between eighths less is filled than the smooth curve bounds.
        String high = "fill ( 0 , 0 ) curve ( 0 , 96 ) curve ( 32 , 96 ) curve ( 32 , 0 ) line cycle ;";
        new Area(Area.curve(new double[][] {{0, 0}, {0, 96}, {32, 96}, {32, 0}})).due(after(high), high);
    }

    private static void erasing() {
        GlyphCompiler x = after("fill ( 0 , 0 ) line ( 6 , 0 ) line ( 6 , 4 ) line ( 0 , 4 ) line cycle ; "
            + "erase ( 1 , 1 ) line ( 4 , 1 ) line ( 4 , 3 ) line ( 1 , 3 ) line cycle ;");
        picture(x, 0, "######", "#   ##", "#   ##", "######");
        Script.run(x, "erase ( 1 , 1 ) line ( 1 , 3 ) line ( 4 , 3 ) line ( 4 , 1 ) line cycle ;");
        picture(x, 0, "######", "#   ##", "#   ##", "######");
        Script.run(x, "fill ( 1 , 0 ) line ( 2 , 0 ) line ( 2 , 2 ) line ( 1 , 2 ) line cycle ;");
        picture(x, 0, "######", "##  ##", "#   ##", "######");
        Script.run(x, "erase ( -1 , -1 ) line ( 40 , -1 ) line ( 40 , 40 ) line ( -1 , 40 ) line cycle ;");
        picture(x, 0);
        edges(x, -2, -2, -2, -2);
    }

    private static void stretches() {
        GlyphCompiler x = after("fill ( 0 , 0 ) line ( 32 , 0 ) line ( 32 , 3 ) line ( 0 , 3 ) line cycle ; "
            + "erase ( 3 , 0 ) line ( 5 , 0 ) line ( 5 , 1 ) line ( 3 , 1 ) line cycle ; "
            + "erase ( 0 , 1 ) line ( 4 , 1 ) line ( 4 , 2 ) line ( 0 , 2 ) line cycle ; "
            + "erase ( 20 , 1 ) line ( 32 , 1 ) line ( 32 , 2 ) line ( 20 , 2 ) line cycle ;");
        int[][] want = {{0, 3, 2, 27, -2, -2}, {4, 16, -2, -2, -2, -2}, {0, 32, -2, -2, -2, -2}, {-2, -2, -2, -2, -2, -2}};
        for (int j = 0; j < 4; j++) {
            for (int k = 0; k < 6; k++) {
                Check.due("stretch(" + j + ", " + k + ")", x.stretch(j, k), want[j][k]);
            }
            Check.due("stretch(" + j + ", large)", x.stretch(j, Integer.MAX_VALUE), -2);
            Check.due("stretch(" + j + ", -1)", x.stretch(j, -1), GlyphCompiler.REFUSED);
        }
    }

    private static void beyondThePicture() {
        GlyphCompiler x = after("fill ( -32 , -32 ) line ( 96 , -32 ) line ( 96 , 96 ) line ( -32 , 96 ) line cycle ;");
        Check.due("count(1)", x.count(1), 768);
        picture(after("fill ( 32 , 0 ) line ( 96 , 0 ) line ( 96 , 24 ) line ( 32 , 24 ) line cycle ;"), 0);
        picture(after("fill ( -32 , 0 ) line ( 0 , 0 ) line ( 0 , 24 ) line ( -32 , 24 ) line cycle ;"), 0);
        picture(after("fill ( 0 , -32 ) line ( 32 , -32 ) line ( 32 , 0 ) line ( 0 , 0 ) line cycle ;"), 0);
        picture(after("fill ( 0 , 24 ) line ( 32 , 24 ) line ( 32 , 96 ) line ( 0 , 96 ) line cycle ;"), 0);
        picture(after("fill ( -32 , 1 ) line ( 2 , 1 ) line ( 2 , 2 ) line ( -32 , 2 ) line cycle ;"), 1, "##");
    }

    private static void fails(String number, int error) {
        String[] paths = {"fill ( N , 1 ) line cycle ;", "fill ( 1 , N ) line cycle ;", "fill ( 1 , 1 ) line ( N , 1 ) line cycle ;",
            "erase ( 1 , 1 ) line ( 1 , N ) line cycle ;", "fill ( 1 , 1 ) curve ( N , 1 ) curve ( 1 , 1 ) curve ( 1 , 1 ) line cycle ;",
            "erase ( 1 , 1 ) curve ( 1 , 1 ) curve ( 1 , N ) curve ( 1 , 1 ) line cycle ;",
            "fill ( 1 , 1 ) curve ( 1 , 1 ) curve ( 1 , 1 ) curve ( 1 , N ) line cycle ;"};
        for (String path : paths) {
            GlyphCompiler x = new GlyphCompiler();
            String text = path.replace("N", number);
            int end = Script.tokens(text).size() - 1;
            Script.run(x, text, error, error == GlyphCompiler.OK ? end + 1 : end);
            Check.due("count(7) " + text, x.count(7), error == GlyphCompiler.OK ? 1 : 0);
        }
    }

    private static void errorsOfNumbers() {
        fails("x0", GlyphCompiler.UNKNOWN);
        fails("1/16 ( 8/16 )", GlyphCompiler.GRID);
        fails("- 1/16 ( 8/16 )", GlyphCompiler.GRID);
        fails("1/16 ( 1/16 ( 1/16 ( 1/16 ) ) )", GlyphCompiler.GRID);
        fails("97", GlyphCompiler.RANGE);
        fails("-33", GlyphCompiler.RANGE);
        fails("1537/16", GlyphCompiler.RANGE);
        fails("-513/16", GlyphCompiler.RANGE);
        fails("1000 ( 1000 )", GlyphCompiler.RANGE);
        fails("96", GlyphCompiler.OK);
        fails("-32", GlyphCompiler.OK);
        fails("1/16", GlyphCompiler.OK);
        fails("x0 - x0 + 1", GlyphCompiler.OK);
        // Each number for itself: grid before range, unknown before grid.
        fails("97 + 1/16 ( 8/16 )", GlyphCompiler.GRID);
        fails("x0 + 97 + 1/16 ( 8/16 )", GlyphCompiler.UNKNOWN);
        // The range of an expression comes first.
        fails("x0 + 1000 ( 1000 ) + 1000 ( 1000 )", GlyphCompiler.RANGE);
    }

    private static void orderOfErrors() {
        String[] numbers = {"x0", "1/16 ( 8/16 )", "97", "1"};
        int[] errors = {GlyphCompiler.UNKNOWN, GlyphCompiler.GRID, GlyphCompiler.RANGE, GlyphCompiler.OK};
        for (int a = 0; a < 4; a++) {
            for (int b = 0; b < 4; b++) {
                String text = "fill ( 1 , " + numbers[a] + " ) line ( " + numbers[b] + " , x5 ) line cycle ;";
                int error = a < 3 ? errors[a] : b < 3 ? errors[b] : GlyphCompiler.UNKNOWN;
                Script.run(new GlyphCompiler(), text, error, Script.tokens(text).size() - 1);
                text = "fill ( " + numbers[a] + " , " + numbers[b] + " ) line ( 2 , 1000 ( 1000 ( 2 ) ) ) line cycle ;";
                Script.run(new GlyphCompiler(), text, GlyphCompiler.RANGE, Script.tokens(text).size() - 1);
            }
        }
        // What an earlier path left behind is not looked at.
        GlyphCompiler later = new GlyphCompiler();
        Script.run(later, "fill ( 1 , 1 ) line ( 2 , 2 ) line ( x0 , x0 ) line cycle ;", GlyphCompiler.UNKNOWN, 20);
        Script.run(later, "fill ( 1 , 1 ) line ( 2 , 2 ) line cycle ;");
        // An error leaves the picture as it is.
        GlyphCompiler x = after("fill " + SQUARE);
        String text = "erase ( 0 , 0 ) line ( 9 , 0 ) line ( 9 , 9 ) line ( 0 , 9 ) line ( 0 , x0 ) line cycle ;";
        Script.run(x, text, GlyphCompiler.UNKNOWN, Script.tokens(text).size() - 1);
        picture(x, 3, "  ####", "  ####");
    }

    private static void legs() {
        String line = "line ( 6 , 0 ) ";
        String curve = "curve ( 6 , 0 ) curve ( 6 , 0 ) curve ( 6 , 0 ) ";
        GlyphCompiler x = new GlyphCompiler();
        Script.macro(x, 0, 0, line);
        Script.macro(x, 1, 0, curve);
        String rest = "line ( 6 , 2 ) line ( 0 , 2 ) line cycle ;";
        Script.run(x, "fill ( 0 , 0 ) " + Script.repeat("@0", 10) + rest, GlyphCompiler.OK, 6 + 60 + 15);
        picture(x, 0, "######", "######");
        x.clean();
        Script.run(x, "fill ( 0 , 0 ) " + Script.repeat("@0", 11) + rest, GlyphCompiler.LONG, 6 + 66 + 14);
        picture(x, 0);
        Script.run(x, "fill ( 0 , 0 ) " + Script.repeat("@1", 10) + rest, GlyphCompiler.OK, 6 + 180 + 15);
        picture(x, 0, "######", "######");
        Script.run(x, "erase ( 0 , 0 ) " + Script.repeat("@1", 12) + "line cycle ;", GlyphCompiler.OK, 6 + 216 + 3);
        Script.run(x, "erase ( 0 , 0 ) " + Script.repeat("@1", 13) + "line cycle ;", GlyphCompiler.LONG, 6 + 234 + 2);
        Script.run(x, "erase ( 0 , 0 ) " + Script.repeat("@0", 48) + "line cycle ;", GlyphCompiler.LONG, 6 + 288 + 2);
        // The last of twelve curves is drawn whole, and so is the way back.
        GlyphCompiler single = after("fill ( 8 , 0 ) curve ( 0 , 0 ) curve ( 0 , 8 ) curve ( 8 , 8 ) line cycle ;");
        GlyphCompiler last = new GlyphCompiler();
        Script.macro(last, 1, 0, curve.replace("6", "8"));
        Script.run(last, "fill ( 8 , 0 ) " + Script.repeat("@1", 11) + "curve ( 0 , 0 ) curve ( 0 , 8 ) curve ( 8 , 8 ) line cycle ;",
            GlyphCompiler.OK, 6 + 216 + 3);
        Check.due("the picture of twelve curves", Look.picture(last), Look.picture(single));
        Check.due("count(1) > 30", last.count(1) > 30, true);
        // Long comes after the range of the expressions and before what is asked of the numbers.
        Script.run(x, "fill ( x0 , 99 ) " + Script.repeat("@0", 13) + "line cycle ;", GlyphCompiler.LONG, 6 + 78 + 2);
        Script.run(x, "fill ( 0 , 1000 ( 1000 ( 2 ) ) ) " + Script.repeat("@0", 13) + "line cycle ;", GlyphCompiler.RANGE, 12 + 78 + 2);
        picture(x, 0, "######", "######");
    }

    private static void cleaning() {
        GlyphCompiler x = after("x0 = 1 ; show 2 ; fill " + SQUARE);
        Script.feed(x, "x1 =");
        Check.due("clean()", x.clean(), GlyphCompiler.OK);
        picture(x, 0);
        edges(x, -2, -2, -2, -2);
        Check.due("count(0) stays", x.count(0), 2);
        Check.due("count(6) stays", x.count(6), 1);
        Check.due("count(7) stays", x.count(7), 3);
        Check.due("state(0) stays", x.state(0), 2);
        Check.due("clean()", x.clean(), GlyphCompiler.OK);
        x.wipe();
        Script.run(x, "fill " + SQUARE);
        picture(x, 3, "  ####", "  ####");
    }

    private static void outOfRange() {
        GlyphCompiler x = after("fill ( -9 , -9 ) line ( 90 , -9 ) line ( 90 , 90 ) line ( -9 , 90 ) line cycle ;");
        for (int w : new int[] {-1, 32, Integer.MIN_VALUE, Integer.MAX_VALUE}) {
            Check.due("black(" + w + ", 0)", x.black(w, 0), false);
            Check.due("black(0, " + w + ")", x.black(0, w), false);
            Check.due("stretch(" + w + ", 0)", x.stretch(w, 0), GlyphCompiler.REFUSED);
        }
        Check.due("black(0, 24)", x.black(0, 24), false);
        Check.due("black(31, 23)", x.black(31, 23), true);
        Check.due("stretch(24, 0)", x.stretch(24, 0), GlyphCompiler.REFUSED);
        Check.due("stretch(23, 1)", x.stretch(23, 1), 32);
        Check.due("stretch(0, MIN)", x.stretch(0, Integer.MIN_VALUE), GlyphCompiler.REFUSED);
    }
}
