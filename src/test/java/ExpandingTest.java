/** Promises 5 and 6, as far as the calls of macros go, and count(8). */
final class ExpandingTest {
    public static void main(String[] args) {
        strayAndUndefined();
        depth();
        argumentsKeepTheirDepth();
        shapes();
        argumentsAreTakenWhole();
        longRows();
        manyReplacements();
        errorsComeBeforeStatements();
        Check.end();
    }

    private static void replacements(GlyphCompiler x, int want) {
        Check.due("count(8)", x.count(8), want);
    }

    private static void strayAndUndefined() {
        GlyphCompiler x = new GlyphCompiler();
        Script.run(x, "; ; $2", GlyphCompiler.STRAY, 2);
        Script.run(x, "; @0 ( $0 )", GlyphCompiler.UNDEFINED, 1);
        Script.macro(x, 0, 1, "; $0 ;");
        Script.run(x, "; @0 ( $1 )", GlyphCompiler.STRAY, 2);
        replacements(x, 1);
        Script.macro(x, 1, 1, ";");
        Script.run(x, "@1 ( $0 @5 ) ;", GlyphCompiler.OK, 2);
        Script.run(x, "@0 ( @5 )", GlyphCompiler.UNDEFINED, 1);
        Script.run(x, "@1", GlyphCompiler.SHAPE, 0);
        replacements(x, 0);
    }

    private static void depth() {
        GlyphCompiler x = new GlyphCompiler();
        Script.macro(x, 0, 0, "; @1");
        Script.macro(x, 1, 0, "; @2");
        Script.macro(x, 2, 0, "; @3");
        Script.macro(x, 3, 0, "; @4");
        Script.macro(x, 4, 0, "; @5");
        Script.macro(x, 5, 0, ";");
        Script.run(x, "@0", GlyphCompiler.OK, 6);
        replacements(x, 6);
        Script.macro(x, 5, 0, "; @5");
        Script.run(x, "; @0", GlyphCompiler.DEEP, 7);
        replacements(x, 6);
        Script.run(x, "@1", GlyphCompiler.DEEP, 6);
        Script.macro(x, 5, 1, "; @5");
        Script.run(x, "@5 ( )", GlyphCompiler.SHAPE, 1);
        // Deep comes before shape.
        Script.run(x, "@5 ( ) ( ) ( ) ( ) ( )", GlyphCompiler.SHAPE, 5);
        Script.run(x, "@5 ( ) ( ) ( ) ( ) ( ) ( )", GlyphCompiler.DEEP, 6);
        Script.macro(x, 5, 1, "; @5 ( )");
        Script.run(x, "@5 ( ) ;", GlyphCompiler.DEEP, 6);
    }

    private static void argumentsKeepTheirDepth() {
        GlyphCompiler x = new GlyphCompiler();
        Script.macro(x, 0, 1, "$0");
        // Each call that is an argument has the depth at which it was written, however often it is passed on.
        Script.run(x, "@0 ( @0 ( @0 ( @0 ( @0 ( @0 ( @0 ( @0 ( ; ) ) ) ) ) ) ) )", GlyphCompiler.OK, 1);
        replacements(x, 8);
        Script.macro(x, 1, 1, "@0 ( $0 @2 )");
        Script.macro(x, 2, 0, ";");
        Script.run(x, "@1 ( @2 )", GlyphCompiler.OK, 2);
        replacements(x, 4);
        Script.macro(x, 3, 0, "@3");
        Script.run(x, "@0 ( @3 )", GlyphCompiler.DEEP, 0);
        replacements(x, 7);
        Script.macro(x, 4, 0, "@0 ( @3 )");
        Script.run(x, "@4", GlyphCompiler.DEEP, 0);
        replacements(x, 7);
        Script.macro(x, 3, 0, "@2 @3");
        Script.run(x, "@3", GlyphCompiler.DEEP, 5);
        replacements(x, 11);
        // The first of several calls that are too deep is the error's place.
        Script.macro(x, 3, 0, "; @4");
        Script.macro(x, 4, 0, "; @3 @5");
        Script.run(x, "@3", GlyphCompiler.DEEP, 6);
        Script.macro(x, 3, 1, "$0");
        Script.macro(x, 4, 0, "@3 ( @4 ) @5");
        Script.run(x, "@4", GlyphCompiler.DEEP, 0);
    }

    private static void shapes() {
        GlyphCompiler x = new GlyphCompiler();
        Script.macro(x, 0, 0, ";");
        Script.macro(x, 1, 1, "show $0 ;");
        Script.macro(x, 2, 2, "show $1 ; show $0 ;");
        Script.macro(x, 3, 3, "show $2 ; show $1 ; show $0 ;");
        String[] wrong = {"@1", "@1 ;", "@1 5", "@1 )", "@1 (", "@1 ( 5", "@1 ( 5 ,", "@1 ( 5 , )", "@1 ( ( 5 )",
            "@1 ( ( 5 , 6 )", "@2 ( 1 )", "@2 ( )", "@2 ( 1 , 2", "@2 ( 1 , 2 , 3 )", "@2 ( ( 1 , 2 )", "@2 ( ( 1 , 2 ) )",
            "@3 ( 1 , 2 )", "@3 ( 1 , 2 , 3", "@3 ( 1 , 2 , 3 , 4 )", "@3 , 1 , 2 , 3 )", "@3 ( 1 ) 2 , 3 )"};
        for (String text : wrong) {
            Script.run(x, text, GlyphCompiler.SHAPE, 0);
            Script.run(x, "@0 ; " + text, GlyphCompiler.SHAPE, 2);
            replacements(x, 1);
        }
        Check.due("count(7)", x.count(7), 0);
        Script.run(x, "@0 @1 ( 1 ) @2 ( 2 , 3 ) @3 ( 4 , 5 , 6 ) @0", GlyphCompiler.OK, 20);
        for (int k = 0; k < 6; k++) {
            int[] newest = {4, 5, 6, 2, 3, 1};
            Check.due("shown(" + k + ")", x.shown(k), newest[k] * 65536L);
        }
        replacements(x, 5);
    }

    private static void argumentsAreTakenWhole() {
        GlyphCompiler x = new GlyphCompiler();
        Script.macro(x, 0, 2, "show 1/16 between ( $1 , $0 ) ;");
        Script.run(x, "@0 ( ( ( 16 ) ) , 1 between ( 3 , 32 ) )", GlyphCompiler.OK, 19);
        Check.due("shown(0)", x.shown(0), 31 * 65536L);
        Script.macro(x, 1, 3, "$1 $0 $2 $0");
        Script.run(x, "@1 ( 4 , show , ; show )", GlyphCompiler.SYNTAX, 5);
        Script.run(x, "@1 ( 4 ; , show , show ) ;", GlyphCompiler.OK, 7);
        Script.run(x, "@1 ( , , )", GlyphCompiler.OK, 0);
        Script.run(x, "@1 ( , ; , ; ) ;", GlyphCompiler.OK, 3);
        // An argument may name a call whose brackets come from behind the outer call.
        Script.macro(x, 2, 1, "show $0 ;");
        Script.macro(x, 3, 1, "$0");
        Script.run(x, "@3 ( @2 ) ( 9 )", GlyphCompiler.OK, 3);
        Check.due("shown(0)", x.shown(0), 9 * 65536L);
        // A body's brackets may be unpaired.
        Script.macro(x, 4, 0, "( 8 )");
        Script.run(x, "@2 @4", GlyphCompiler.SHAPE, 0);
        Script.run(x, "@3 ( @2 @4 )", GlyphCompiler.SHAPE, 0);
        replacements(x, 1);
    }

    private static void longRows() {
        GlyphCompiler x = new GlyphCompiler();
        Script.macro(x, 0, 0, Script.repeat(";", 40));
        Script.macro(x, 1, 0, Script.repeat(";", 21));
        Script.run(x, "@0 @0 @0 @0 @0 @0 @0 " + Script.repeat(";", 20), GlyphCompiler.OK, 300);
        replacements(x, 7);
        Check.due("count(7)", x.count(7), 300);
        Script.run(x, "@0 @0 @0 @0 @0 @0 @0 " + Script.repeat(";", 21), GlyphCompiler.LONG, 240);
        replacements(x, 7);
        Script.run(x, "@0 @0 @0 @0 @0 @0 @0 @1", GlyphCompiler.LONG, 280);
        replacements(x, 8);
        Check.due("count(7)", x.count(7), 300);
        // An argument may make a row very much too long.
        Script.macro(x, 2, 1, Script.repeat("$0", 40));
        Script.run(x, "; @2 ( " + Script.repeat(";", 116) + ")", GlyphCompiler.LONG, 1);
        replacements(x, 1);
        Script.run(x, "@2 ( ; ; ; ; ; ; ; )" + Script.repeat(" ;", 20), GlyphCompiler.OK, 300);
        Script.run(x, "@2 ( ; ; ; ; ; ; ; )" + Script.repeat(" ;", 21), GlyphCompiler.LONG, 0);
    }

    private static void manyReplacements() {
        GlyphCompiler x = new GlyphCompiler();
        Script.macro(x, 0, 0, "");
        Script.run(x, Script.repeat("@0", 100) + "; ;", GlyphCompiler.OK, 2);
        replacements(x, 100);
        Script.run(x, "; " + Script.repeat("@0", 101), GlyphCompiler.LONG, 1);
        replacements(x, 101);
        Script.run(x, "; " + Script.repeat("@0", 100) + "@1", GlyphCompiler.UNDEFINED, 1);
        replacements(x, 100);
        Script.run(x, "", GlyphCompiler.OK, 0);
        replacements(x, 0);
        // As many tokens and as many replacements as there may be at once.
        Script.macro(x, 1, 0, Script.repeat(";", 40));
        Script.run(x, Script.repeat("@0", 93) + Script.repeat(";", 20) + Script.repeat("@1", 7), GlyphCompiler.OK, 300);
        replacements(x, 100);
    }

    private static void errorsComeBeforeStatements() {
        GlyphCompiler x = new GlyphCompiler();
        Script.run(x, "x0 = 1 ; show 1 ; $0", GlyphCompiler.STRAY, 7);
        Check.due("state(0)", x.state(0), 0);
        Check.due("count(6)", x.count(6), 0);
        Check.due("count(7)", x.count(7), 0);
        Script.run(x, "show ; @0", GlyphCompiler.UNDEFINED, 2);
    }
}
