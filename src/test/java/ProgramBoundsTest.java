import java.util.List;

/** The boundary cases of THE PROGRAM, its statements and the order of their errors, sentence by sentence. */
final class ProgramBoundsTest {
    private static final String TWO_MILLION = "1000 ( 1000 ( 2 ) )";
    private static final String TOO_FINE = "8/16 ( 1/16 ( 1/16 ( 1/16 ( 1/16 ) ) ) )";

    /** A statement of each kind that has no error on a new object, and all that may stand in one. */
    private static final String[] STATEMENTS = {
        ";", "x0 = 1 ;", "x0 + - x1 = 2 x2 - 3 ( x3 - 1 ) = 8/16 between ( x4 , ( 5 ) ) ;", "show - - 2 ( 1 + 1/16 ) ;",
        "fill ( 0 , 1 ) line cycle ;", "erase ( - 1 , 2 ) line ( 1 , 2 ) curve ( 3 , 4 ) curve ( 2 ( 3 ) , 6 ) curve ( 7 , 8 ) line cycle ;"};

    public static void main(String[] args) {
        anyNumber();
        oneAfterAnother();
        endOfTheRow();
        firstWrongToken();
        nesting();
        placesOfErrors();
        rangeComesFirst();
        runIsOver();
        Check.end();
    }

    private static void anyNumber() {
        Check.sentence("THE PROGRAM is .. a row of STATEMENTS, where X* is any number of X");
        GlyphCompiler x = new GlyphCompiler();
        Script.run(x, "", GlyphCompiler.OK, 0);
        Check.due("count(7)", x.count(7), 0);
        Script.macro(x, 0, 0, Script.repeat(";", 40));
        Script.run(x, Script.repeat("@0", 7) + Script.repeat(";", 20), GlyphCompiler.OK, 300);
        Check.due("count(7)", x.count(7), 300);
        Check.sentence("EXPR equals EXPR (equals EXPR)* end");
        x = new GlyphCompiler();
        Script.run(x, "1 ;", GlyphCompiler.SYNTAX, 1);
        Script.run(x, "1 = 1 ;");
        Script.run(x, "1 = 1 = 1 ;");
        Script.macro(x, 0, 0, Script.repeat("= 1", 20));
        String most = "1 " + Script.repeat("@0", 7) + Script.repeat("= 1", 8);
        Script.run(x, most + "= 1 ;", GlyphCompiler.OK, 300);
        Script.run(x, most + "= 2 ;", GlyphCompiler.CONFLICT, 299);
        Check.due("count(7)", x.count(7), 3);
        Check.sentence("TERM ((plus or minus) TERM)*");
        x = new GlyphCompiler();
        Script.macro(x, 0, 0, Script.repeat("+ 1", 20));
        Script.macro(x, 1, 0, Script.repeat("- 1", 20));
        Script.show(x, "1", 65536);
        Script.run(x, "show 1 " + Script.repeat("@0", 7) + Script.repeat("+ 1", 8) + ";", GlyphCompiler.OK, 299);
        Check.due("shown(0)", x.shown(0), 149 * 65536);
        Script.run(x, "show 1 " + Script.repeat("@1", 7) + Script.repeat("- 1", 8) + ";", GlyphCompiler.OK, 299);
        Check.due("shown(0)", x.shown(0), -147 * 65536);
        Check.sentence("or minus TERM");
        Script.macro(x, 2, 0, Script.repeat("-", 40));
        Script.run(x, "show " + Script.repeat("@2", 7) + Script.repeat("-", 17) + "1 ;", GlyphCompiler.OK, 300);
        Check.due("shown(0)", x.shown(0), -65536);
        Check.sentence("PATH: PAIR LEG* line cycle.");
        Script.run(x, "fill ( 1 , 1 ) line cycle ;");
        Script.run(x, "fill ( 1 , 1 ) cycle ;", GlyphCompiler.SYNTAX, 6);
        Script.run(x, "fill ( 1 , 1 ) ;", GlyphCompiler.SYNTAX, 6);
        Script.run(x, "fill ( 1 , 1 ) line ( 1 , 1 ) ;", GlyphCompiler.SYNTAX, 12);
        Script.run(x, "erase ( 1 , 1 ) curve ( 1 , 1 ) curve ( 1 , 1 ) curve ( 1 , 1 ) ;", GlyphCompiler.SYNTAX, 24);
        Script.run(x, "fill line cycle ;", GlyphCompiler.SYNTAX, 1);
    }

    private static void oneAfterAnother() {
        Check.sentence("STATEMENTS are read and carried out one after another.");
        GlyphCompiler x = new GlyphCompiler();
        Script.run(x, "show x0 ; x0 = 2 ;", GlyphCompiler.UNKNOWN, 2);
        Script.run(x, "x0 = 2 ; show 3 x0 ; x1 = x0 + 1 ; show x1 ;");
        Check.due("shown(1)", x.shown(1), 6 * 65536);
        Check.due("shown(0)", x.shown(0), 3 * 65536);
        // An error of the first comes before a wrong token of the second, and that before an error of the third.
        Script.run(x, "show x5 ; show show ;", GlyphCompiler.UNKNOWN, 2);
        Script.run(x, "show 9 ; show show ; show x5 ;", GlyphCompiler.SYNTAX, 4);
        Check.due("shown(0)", x.shown(0), 9 * 65536);
    }

    private static void endOfTheRow() {
        Check.sentence("The first TOKEN that cannot go on so (the end of the ROW, too): error SYNTAX at its place");
        for (String statement : STATEMENTS) {
            List<int[]> tokens = Script.tokens(statement);
            for (int length = 0; length <= tokens.size(); length++) {
                GlyphCompiler x = new GlyphCompiler();
                String cut = Script.text(tokens.subList(0, length));
                boolean whole = length == 0 || length == tokens.size();
                Script.run(x, "; " + cut, whole ? GlyphCompiler.OK : GlyphCompiler.SYNTAX, 1 + length);
                Check.due("count(7) " + cut, x.count(7), length == tokens.size() ? 2 : 1);
            }
        }
        // The end of a row that is as long as one may be.
        GlyphCompiler x = new GlyphCompiler();
        Script.macro(x, 0, 0, Script.repeat(";", 40));
        Script.run(x, Script.repeat("@0", 7) + Script.repeat(";", 19) + "x0", GlyphCompiler.SYNTAX, 300);
        Check.due("count(7)", x.count(7), 299);
    }

    /** Puts a word that never fits in place of each token: all before it must go on, and it cannot. */
    private static void firstWrongToken() {
        for (String statement : STATEMENTS) {
            int length = Script.tokens(statement).size();
            for (int place = 0; place < length; place++) {
                wrongAt(statement, place, "cycle");
                wrongAt(statement, place, "show");
                wrongAt(statement, place, "fill");
                wrongAt(statement, place, "=");
            }
        }
        GlyphCompiler x = new GlyphCompiler();
        for (String word : new String[] {"+", "=", ")", ",", "curve", "line", "cycle", "between"}) {
            Script.run(x, word, GlyphCompiler.SYNTAX, 0);
            Script.run(x, "; " + word + " ;", GlyphCompiler.SYNTAX, 1);
        }
    }

    private static void wrongAt(String statement, int place, String word) {
        List<int[]> tokens = Script.tokens(statement);
        String before = Script.text(tokens.subList(0, place));
        String there = Script.text(tokens.subList(place, place + 1));
        boolean begins = place == 0 && (word.equals("show") || word.equals("fill"));
        boolean fits = word.equals(there) || word.equals("=") && equalsFits(before);
        if (!begins && !fits && !(word.equals("cycle") && before.endsWith("line"))) {
            GlyphCompiler x = new GlyphCompiler();
            Script.run(x, before + " " + word + " 1 ;", GlyphCompiler.SYNTAX, place);
            Check.due("count(7)", x.count(7), 0);
        }
    }

    /** Whether the tokens are an equation up to the end of one of its expressions, so that "=" may follow. */
    private static boolean equalsFits(String before) {
        boolean equation = !before.isEmpty() && !before.startsWith("show") && !before.startsWith("fill") && !before.startsWith("erase");
        long open = before.chars().filter(c -> c == '(').count() - before.chars().filter(c -> c == ')').count();
        return equation && open == 0 && before.matches(".*([0-9]|\\))");
    }

    private static void nesting() {
        Check.sentence("EXPRs in brackets nest at most 8 deep (every open of a PRIMARY or after between counts)");
        String[] opens = {"(", "2 (", "- (", "1 + (", "0 between ( 1 ,", "- 0 between ("};
        String[] closes = {")", ")", ")", ") + 1", ")", ", 1 )"};
        for (int o = 0; o < opens.length; o++) {
            for (int outer = 0; outer < opens.length; outer++) {
                String text = "show " + Script.repeat(opens[outer], 7);
                String rest = "0 " + closes[o] + " " + Script.repeat(closes[outer], 7) + ";";
                Script.run(new GlyphCompiler(), text + opens[o] + " " + rest);
                deeper(text + "( ", opens[o], " " + rest);
            }
        }
        Check.sentence("a deeper open: error DEEP at its place.");
        GlyphCompiler x = new GlyphCompiler();
        String eight = Script.repeat("(", 8);
        for (String next : new String[] {"", ";", ")", "1", "cycle", "("}) {
            Script.run(x, "show " + eight + "( " + next, GlyphCompiler.DEEP, 9);
            Script.run(x, "1 = " + eight + "2 between ( " + next, GlyphCompiler.DEEP, 12);
            Script.run(x, "fill ( 1 , " + eight + "( " + next, GlyphCompiler.DEEP, 12);
        }
        // Where no open may stand it is the wrong token, however deep.
        Script.run(x, "show " + eight + "1 + 2 x0 (", GlyphCompiler.SYNTAX, 13);
        Script.run(x, "show " + eight + "x0 (", GlyphCompiler.SYNTAX, 10);
        // The open of a pair does not count, and a close gives back what its open took.
        x = new GlyphCompiler();
        String deepest = eight + "1 " + Script.repeat(")", 8);
        Script.run(x, "erase ( " + deepest + ", " + deepest + ") line ( " + deepest + ", 1 ) line cycle ;");
        Script.run(x, "show " + deepest + "+ " + deepest + "- 0 between ( 1 , 2 ) + " + deepest + ";");
        Script.run(x, deepest + "= " + deepest + "= " + deepest + ";");
        Script.run(x, "show " + Script.repeat("(", 7) + "( 1 ) + ( 1 ) + ( ( 1", GlyphCompiler.DEEP, 17);
    }

    /** The open of the text in the middle is one too deep. */
    private static void deeper(String before, String open, String after) {
        List<int[]> tokens = Script.tokens(before + open);
        int place = tokens.size() - 1;
        while (tokens.get(place)[0] != 4 || tokens.get(place)[1] != 3) {
            place--;
        }
        Script.run(new GlyphCompiler(), before + open + after, GlyphCompiler.DEEP, place);
    }

    private static void placesOfErrors() {
        Check.sentence("All other errors of a STATEMENT are at the place of its end, which is read before");
        String[] wrong = {"1 = 2", "x0 = 1 = 2 = 2", "3 x0 = 1", "2 x0 = 1/16 ( 1/16 ( 1/16 ( 1/16 ) ) )", "show x0", "show " + TWO_MILLION,
            "show " + TOO_FINE, "fill ( x0 , 1 ) line cycle", "fill ( 97 , 1 ) line cycle", "erase ( 1 , 1/16 ( 1/16 ) ) line ( 1 , 1 ) line cycle",
            "fill ( 1 , 1 ) " + Script.repeat("line ( 1 , 1 )", 13) + "line cycle"};
        int[] errors = {GlyphCompiler.CONFLICT, GlyphCompiler.CONFLICT, GlyphCompiler.HARD, GlyphCompiler.RANGE, GlyphCompiler.UNKNOWN,
            GlyphCompiler.RANGE, GlyphCompiler.RANGE, GlyphCompiler.UNKNOWN, GlyphCompiler.RANGE, GlyphCompiler.GRID, GlyphCompiler.LONG};
        for (int w = 0; w < wrong.length; w++) {
            int length = Script.tokens(wrong[w]).size();
            Script.run(new GlyphCompiler(), wrong[w] + " ;", errors[w], length);
            Script.run(new GlyphCompiler(), "; ; " + wrong[w] + " ; show x1 ;", errors[w], length + 2);
            // Without its end, or with a wrong token before it, that is the error.
            Script.run(new GlyphCompiler(), wrong[w], GlyphCompiler.SYNTAX, length);
            Script.run(new GlyphCompiler(), wrong[w] + " cycle ;", GlyphCompiler.SYNTAX, length);
        }
        Script.run(new GlyphCompiler(), "show " + TWO_MILLION + " + " + Script.repeat("(", 9) + "1", GlyphCompiler.DEEP, 17);
    }

    private static void rangeComesFirst() {
        Check.sentence("RANGE of its EXPRs comes before the others.");
        for (String large : new String[] {TWO_MILLION, TOO_FINE}) {
            String[] texts = {"1 = 2 = " + large, large + " = 1 = 2", "3 x0 = " + large, "1 = 3 x0 = " + large, "show x0 + " + large,
                "fill ( x0 , 1 ) line ( 1 , " + large + " ) line cycle", "fill ( 1 , 1/16 ( 1/16 ) ) line ( " + large + " , 1 ) line cycle",
                "erase ( " + large + " , 1 ) " + Script.repeat("line ( 1 , 1 )", 13) + "line cycle",
                "erase ( 1 , 1 ) " + Script.repeat("line ( 1 , 1 )", 13) + "line ( 1 , " + large + " ) line cycle"};
            for (String text : texts) {
                Script.run(new GlyphCompiler(), text + " ;", GlyphCompiler.RANGE, Script.tokens(text).size());
            }
        }
    }

    private static void runIsOver() {
        Check.sentence("With an error the RUN is over; the STATEMENTS before it stay carried out, its own does nothing.");
        String square = "( 1 , 1 ) line ( 5 , 1 ) line ( 5 , 3 ) line ( 1 , 3 )";
        String before = "x0 = x1 + 2 ; show 3 ; fill " + square + " line cycle ;";
        String after = " ; show 4 ; x1 = 5 ; erase " + square + " line cycle ;";
        String[] wrong = {"x5 = 1 = x1 = 2 = 3", "x5 = x1 = 3 x6 + x5", "x1 = 1000 = x5 = 1000 ( 1000 ( 1/16 x1 ) )", "show x1", "show 4 + " + TWO_MILLION,
            "erase " + square + " line ( 97 , 1 ) line cycle", "erase " + square + " line ( 1 , x1 ) line cycle",
            "erase " + square + " line ( 1 , 1/16 ( 1/16 ) ) line cycle", "x1 = 1 = )", "erase " + square + " line cycle cycle", "show 1 2"};
        for (String text : wrong) {
            GlyphCompiler done = new GlyphCompiler();
            Script.run(done, before);
            String want = Look.results(done);
            GlyphCompiler x = new GlyphCompiler();
            Script.feed(x, before + " " + text + after);
            Check.due("an error of run() " + text, x.run() < 0, true);
            Check.due("after " + text, Look.results(x), want);
            Check.due("count(7)", x.count(7), 3);
        }
    }
}
