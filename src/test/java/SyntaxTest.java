/** Promises 5 and 6, as far as the form of statements goes. */
final class SyntaxTest {
    public static void main(String[] args) {
        wrongTokens();
        rightStatements();
        nesting();
        minuses();
        syntaxComesBeforeOtherErrors();
        statementsBeforeStay();
        Check.end();
    }

    /** The last token, or the row's end if "END" stands there, is the first that cannot go on. */
    private static void wrongTokens() {
        String[] wrong = {
            "+", "=", ")", ",", "curve", "line", "cycle", "between",
            "1 END", "1 ;", "1 )", "1 ,", "1 2", "1 show", "x0 1", "x0 x1", "x0 (", "x0 between", "x0 ;", "x0 +  END", "x0 + +",
            "x0 + =", "x0 = END", "x0 = ;", "x0 = =", "x0 = 1 END", "x0 = 1 )", "x0 = 1 ,", "x0 = 1 = ;", "x0 = 1 = 2 = END",
            "x0 = x1 1", "x0 = 1 x1 x2", "x0 = fill", "- END", "- ;", "- +", "- - =", "( END", "( )", "( 1 END", "( 1 ,", "( 1 ;", "( 1 =",
            "( 1 ) (", "( 1 ) 2", "( 1 ) x0", "2 ( )", "2 ( 1 ) (", "2 between END", "2 between x0", "2 between 1", "2 between ;",
            "2 between ( END", "2 between ( 1 END", "2 between ( 1 )", "2 between ( 1 , END", "2 between ( 1 , )",
            "2 between ( 1 , 2 END", "2 between ( 1 , 2 ,", "2 between ( 1 , 2 ) x0", "2 between ( 1 , 2 ) 1",
            "show END", "show ;", "show show", "show 1 END", "show 1 =", "show 1 )", "show 1 2", "show x0 ( ", "show fill",
            "fill END", "fill ;", "fill 1", "fill x0", "fill line", "fill ( END", "fill ( )", "fill ( 1 END", "fill ( 1 )",
            "fill ( 1 ;", "fill ( 1 , END", "fill ( 1 , )", "fill ( 1 , 2 END", "fill ( 1 , 2 ,", "fill ( 1 , 2 ) END",
            "fill ( 1 , 2 ) ;", "fill ( 1 , 2 ) cycle", "fill ( 1 , 2 ) (", "fill ( 1 , 2 ) line END", "fill ( 1 , 2 ) line ;",
            "fill ( 1 , 2 ) line line", "fill ( 1 , 2 ) line curve", "fill ( 1 , 2 ) line 1", "fill ( 1 , 2 ) line cycle END",
            "fill ( 1 , 2 ) line cycle line", "fill ( 1 , 2 ) line cycle cycle", "fill ( 1 , 2 ) line ( 1 , 2 ) cycle",
            "fill ( 1 , 2 ) line ( 1 , 2 ) ;", "fill ( 1 , 2 ) curve END", "fill ( 1 , 2 ) curve cycle", "fill ( 1 , 2 ) curve curve",
            "fill ( 1 , 2 ) curve ( 1 , 2 ) line", "fill ( 1 , 2 ) curve ( 1 , 2 ) ;", "fill ( 1 , 2 ) curve ( 1 , 2 ) curve cycle",
            "fill ( 1 , 2 ) curve ( 1 , 2 ) curve ( 1 , 2 ) line", "fill ( 1 , 2 ) curve ( 1 , 2 ) curve ( 1 , 2 ) ;",
            "fill ( 1 , 2 ) curve ( 1 , 2 ) curve ( 1 , 2 ) curve line",
            "fill ( 1 , 2 ) curve ( 1 , 2 ) curve ( 1 , 2 ) curve ( 1 , 2 ) ;",
            "fill ( 1 , 2 ) curve ( 1 , 2 ) curve ( 1 , 2 ) curve ( 1 , 2 ) curve cycle",
            "erase END", "erase ;", "erase ( 1 , 2 ) line ;", "erase ( 1 = "
        };
        for (String text : wrong) {
            String tokens = text.replace("END", "");
            int place = Script.tokens(tokens).size() - (text.endsWith("END") ? 0 : 1);
            GlyphCompiler x = new GlyphCompiler();
            Script.run(x, tokens, GlyphCompiler.SYNTAX, place);
            Check.due("count(7) " + text, x.count(7), 0);
            Script.run(x, "; show 1 ; " + tokens, GlyphCompiler.SYNTAX, place + 4);
            Check.due("count(7) " + text, x.count(7), 2);
        }
    }

    private static void rightStatements() {
        GlyphCompiler x = new GlyphCompiler();
        String[] right = {"", ";", "; ;", "1 = 1 ;", "1 = 1 = 1 ;", "( 1 ) = - - 1 ;", "2 ( 1 ) = 2 ;", "x0 = x0 ;",
            "1/16 x0 + x1 = 1/16 x0 + x1 ;", "show ( 1 ) ;", "show 1 between ( 1 , 2 ) ;", "show - 1 between ( 1 , 2 ) ;",
            "fill ( 1 , 2 ) line cycle ;", "erase ( 1 , 2 ) line cycle ;", "fill ( ( 1 ) , ( 2 ) ) line cycle ;",
            "fill ( 1 , 2 ) line ( 3 , 4 ) curve ( 1 , 2 ) curve ( 1 , 2 ) curve ( 1 , 2 ) line cycle ;"};
        int[] statements = {0, 1, 2, 1, 1, 1, 1, 1, 1, 1, 1, 1, 1, 1, 1, 1};
        int sum = 0;
        for (int r = 0; r < right.length; r++) {
            Script.run(x, right[r]);
            sum += statements[r];
            Check.due("count(7) " + right[r], x.count(7), sum);
        }
    }

    private static void nesting() {
        GlyphCompiler x = new GlyphCompiler();
        String open = Script.repeat("(", 8);
        String close = Script.repeat(")", 8);
        Script.run(x, "show " + open + "3 " + close + ";");
        Script.run(x, "show " + open + "( 3 ) " + close + ";", GlyphCompiler.DEEP, 9);
        Script.run(x, "show " + open + "2 ( 3 ) " + close + ";", GlyphCompiler.DEEP, 10);
        Script.run(x, "show " + open + "2 between ( 3 , 4 ) " + close + ";", GlyphCompiler.DEEP, 11);
        Script.run(x, "show " + open + "2 between 3", GlyphCompiler.SYNTAX, 11);
        Script.run(x, "show " + open + "(", GlyphCompiler.DEEP, 9);
        Script.run(x, open + "3 + 4 " + close + "= 2 " + open + "- x0 " + close + ";");
        // The open of a pair does not count, and each expression counts for itself.
        Script.run(x, "fill ( " + open + "3 " + close + ", " + open + "3 " + close + ") line cycle ;");
        Script.run(x, "fill ( " + open + "3 " + close + ", " + open + "( 3", GlyphCompiler.DEEP, 28);
        // The open after between counts for both its ends, and no longer behind its close.
        String ends = "1 between ( " + Script.repeat("(", 7) + "5 " + Script.repeat(")", 7) + ", ";
        Script.run(x, "show " + ends + Script.repeat("(", 7) + "6 " + Script.repeat(")", 7) + ") + " + open + "1 " + close + ";");
        Check.due("shown(0)", x.shown(0), 7 * 65536);
        Script.run(x, "show " + ends + Script.repeat("(", 8) + "6", GlyphCompiler.DEEP, 27);
        Script.run(x, "show " + Script.repeat("1 between ( 0 ,", 8) + "5 " + close + ";");
        Check.due("shown(0)", x.shown(0), 5 * 65536);
        Script.run(x, "show " + Script.repeat("1 between ( 0 ,", 9) + "5 " + close + ") ;", GlyphCompiler.DEEP, 43);
        Script.run(x, "show ( 1 ) + ( 2 ) - ( 3 ) + ( 4 ) - ( 5 ) + ( 6 ) - ( 7 ) + ( 8 ) - ( 9 ) + ( 10 ) ;");
    }

    private static void minuses() {
        GlyphCompiler x = new GlyphCompiler();
        Script.show(x, Script.repeat("-", 117) + "3", -3 * 65536);
        Script.show(x, Script.repeat("-", 116) + "3", 3 * 65536);
        Script.macro(x, 0, 0, Script.repeat("-", 40));
        Script.run(x, "show @0 @0 @0 @0 @0 @0 @0 - - - 3 ;", GlyphCompiler.OK, 286);
        Check.due("shown(0)", x.shown(0), -3 * 65536);
        Script.run(x, "@0 @0 @0 @0 @0 @0 @0 " + Script.repeat("-", 20), GlyphCompiler.SYNTAX, 300);
    }

    private static void syntaxComesBeforeOtherErrors() {
        GlyphCompiler x = new GlyphCompiler();
        Script.run(x, "show 1000 ( 1000 ( 2 ) ) )", GlyphCompiler.SYNTAX, 8);
        Script.run(x, "1 = 2 = show", GlyphCompiler.SYNTAX, 4);
        Script.run(x, "show 1000 ( 1000 ( 2 ) ) + " + Script.repeat("(", 9), GlyphCompiler.DEEP, 17);
        Script.run(x, "show x0 2", GlyphCompiler.SYNTAX, 2);
        Script.run(x, "fill ( x0 , 1000 ) line cycle", GlyphCompiler.SYNTAX, 8);
    }

    private static void statementsBeforeStay() {
        GlyphCompiler x = new GlyphCompiler();
        Script.run(x, "x0 = 4 ; show x0 ; fill ( 0 , 0 ) line ( 0 , 9 ) line ( 9 , 9 ) line cycle ; x1 = 5 show", GlyphCompiler.SYNTAX, 31);
        Check.due("state(0)", x.state(0), 2);
        Check.due("state(1)", x.state(1), 0);
        Check.due("shown(0)", x.shown(0), 4 * 65536);
        Check.due("count(1) > 0", x.count(1) > 0, true);
        Check.due("count(7)", x.count(7), 3);
    }
}
