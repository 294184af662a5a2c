/** The boundary cases of EXPANDING, which run (promise 5) does first, sentence by sentence. */
final class ExpandingBoundsTest {
    public static void main(String[] args) {
        stray();
        undefined();
        deep();
        openMustFollow();
        arguments();
        shape();
        depths();
        goesOn();
        longRows();
        manyReplacements();
        Check.end();
    }

    private static void replacements(GlyphCompiler x, int want) {
        Check.due("count(8)", x.count(8), want);
    }

    private static void stray() {
        Check.sentence("an ARGUMENT: error STRAY.");
        for (int argument = 0; argument <= 2; argument++) {
            for (int before : new int[] {0, 1, 118, 119}) {
                String text = Script.repeat(";", before) + "$" + argument + " " + Script.repeat(";", 119 - before);
                Script.run(new GlyphCompiler(), text, GlyphCompiler.STRAY, before);
            }
        }
        GlyphCompiler x = new GlyphCompiler();
        Script.macro(x, 0, 1, "; $0");
        Script.macro(x, 1, 2, "; $1");
        Script.run(x, "@0 ( $0 )", GlyphCompiler.STRAY, 1);
        Script.run(x, "@0 ( ; ; $2 )", GlyphCompiler.STRAY, 3);
        // One that is dropped on the way is never at a place of the row.
        Script.run(x, "@1 ( $0 $1 $2 , ; )", GlyphCompiler.OK, 2);
        Script.run(x, "@1 ( ; , $1 )", GlyphCompiler.STRAY, 1);
        // The first error from the left is the one.
        Script.run(x, "; $0 $1 @5", GlyphCompiler.STRAY, 1);
        Script.run(x, "; @5 $0", GlyphCompiler.UNDEFINED, 1);
    }

    private static void undefined() {
        Check.sentence("A CALL of a macro that is not defined: error UNDEFINED");
        for (int m = 0; m <= 5; m++) {
            GlyphCompiler x = new GlyphCompiler();
            Script.run(x, "@" + m, GlyphCompiler.UNDEFINED, 0);
            Script.run(x, Script.repeat(";", 119) + "@" + m, GlyphCompiler.UNDEFINED, 119);
            for (int other = 0; other <= 5; other++) {
                if (other != m) {
                    Script.macro(x, other, 0, "");
                }
            }
            Script.run(x, "@0 @1 @2 @3 @4 @5 ;", GlyphCompiler.UNDEFINED, 0);
            replacements(x, m);
            // A refused definition defines nothing, an empty one does.
            Script.feed(x, "$0");
            Check.due("macro(" + m + ", 0)", x.macro(m, 0), GlyphCompiler.REFUSED);
            x.wipe();
            Script.run(x, "@" + m, GlyphCompiler.UNDEFINED, 0);
            Script.macro(x, m, 0, "");
            Script.run(x, "@0 @1 @2 @3 @4 @5 ;", GlyphCompiler.OK, 1);
        }
        // It has no shape that could be wrong.
        Script.run(new GlyphCompiler(), "@3 (", GlyphCompiler.UNDEFINED, 0);
    }

    private static void deep() {
        Check.sentence("whose depth is 6: error DEEP.");
        GlyphCompiler x = new GlyphCompiler();
        for (int m = 0; m < 5; m++) {
            Script.macro(x, m, 0, "; @" + (m + 1));
        }
        Script.macro(x, 5, 0, "; ;");
        Script.run(x, "@0", GlyphCompiler.OK, 7);
        Script.macro(x, 5, 0, "; @0");
        Script.run(x, "@0", GlyphCompiler.DEEP, 6);
        replacements(x, 6);
        Script.run(x, "; ; @3", GlyphCompiler.DEEP, 8);
        replacements(x, 6);
        // Not defined and of depth 6: the first that the document names. Macro 2 drops what follows it, so that
        // macro 0 comes to its own call of macro 1 only when no argument is left.
        x = new GlyphCompiler();
        Script.macro(x, 0, 3, "$0 ( @1 ) @0 ( $1 , $2 , )");
        Script.macro(x, 2, 1, "");
        Script.macro(x, 4, 0, "@0 ( @2 , @2 , @2 )");
        Script.macro(x, 3, 0, "@4");
        Script.run(x, "@3", GlyphCompiler.UNDEFINED, 1);
        replacements(x, 9);
        Script.macro(x, 1, 0, ";");
        Script.run(x, "@3", GlyphCompiler.DEEP, 1);
        replacements(x, 9);
        // From one depth less the first call of macro 1 that is reached has depth 5, and the next one 6.
        Script.run(x, "@4", GlyphCompiler.DEEP, 4);
        replacements(x, 10);
        // Deep comes before shape: the call of depth 6 has no open behind it, but depth is looked at first.
        x = new GlyphCompiler();
        Script.macro(x, 0, 1, "@0");
        Script.run(x, "@0 ( ) ( ) ( ) ( ) ( ) ( )", GlyphCompiler.DEEP, 0);
        replacements(x, 6);
        Script.run(x, "@0 ( ) ( ) ( ) ( ) ( )", GlyphCompiler.SHAPE, 0);
        replacements(x, 5);
    }

    private static void openMustFollow() {
        Check.sentence("if the macro has parameters, \"open\" must follow at k + 1");
        GlyphCompiler x = new GlyphCompiler();
        Script.macro(x, 0, 0, "show 2");
        Script.run(x, "@0 ( 3 ) ;", GlyphCompiler.OK, 6);
        Check.due("shown(0)", x.shown(0), 6 * 65536);
        for (int n = 1; n <= 3; n++) {
            Script.macro(x, 1, n, ";");
            for (String next : new String[] {"", ";", ")", ",", "x3", "3/16", "x3 ( )", "; ( )", "@0 ( )", "$0 ( )", "48/16 ( )"}) {
                Script.run(x, "; @1 " + next, GlyphCompiler.SHAPE, 1);
                replacements(x, 0);
            }
        }
    }

    private static void arguments() {
        Check.sentence("an argument is a row of TOKENS, perhaps empty");
        GlyphCompiler x = new GlyphCompiler();
        Script.macro(x, 1, 1, "; $0 ;");
        Script.macro(x, 2, 2, "; $0 ; $1 ;");
        Script.macro(x, 3, 3, "$0 show $1 $2 ;");
        Script.run(x, "@1 ( )", GlyphCompiler.OK, 2);
        Script.run(x, "@2 ( , )", GlyphCompiler.OK, 3);
        Script.run(x, "@2 ( ; , )", GlyphCompiler.OK, 4);
        Script.run(x, "@2 ( , ; )", GlyphCompiler.OK, 4);
        Script.run(x, "@3 ( , 3 , )", GlyphCompiler.OK, 3);
        Check.due("shown(0)", x.shown(0), 3 * 65536);
        Script.run(x, "@3 ( ; , , 4 )", GlyphCompiler.OK, 4);
        Check.due("shown(0)", x.shown(0), 4 * 65536);
        Script.run(x, "@3 ( , , )", GlyphCompiler.SYNTAX, 1);
        Check.sentence("ends before the first comma or close that is not between an open and its close inside the argument");
        Script.run(x, "@3 ( ; , 1 between ( 2 , ( 5 ) ) , + ( ( 1 ) ) ) ;", GlyphCompiler.OK, 19);
        Check.due("shown(0)", x.shown(0), 6 * 65536);
        Script.run(x, "@1 ( show ( 1 ) ; show ( ( 2 ) + ( 3 ) ) ; )", GlyphCompiler.OK, 18);
        Check.due("shown(0)", x.shown(0), 5 * 65536);
        Script.run(x, "@3 ( ( , ) , ) ;", GlyphCompiler.SHAPE, 0);
        Script.run(x, "@2 ( ( ; , ; ) , ( ) )", GlyphCompiler.SYNTAX, 2);
        // Brackets are counted for each argument by itself, and what follows the close stays.
        Script.run(x, "@2 ( show ( 1 ) ; , show ( 2 ) ; ) ) ;", GlyphCompiler.SYNTAX, 13);
        Check.due("shown(0)", x.shown(0), 2 * 65536);
        Check.due("shown(1)", x.shown(1), 65536);
        Script.run(x, "@1 ( ; ) , ;", GlyphCompiler.SYNTAX, 3);
        Script.run(x, "@1 ( @1 ( ; ) )", GlyphCompiler.OK, 5);
    }

    private static void shape() {
        Check.sentence("the ROW ends too early .. error SHAPE");
        String[] whole = {"@1", "(", "(", "x0", ",", "x1", ")", ",", ";", ",", "x2", ")"};
        StringBuilder text = new StringBuilder();
        for (int length = 1; length <= whole.length; length++) {
            text.append(whole[length - 1]).append(' ');
            GlyphCompiler x = new GlyphCompiler();
            Script.macro(x, 1, 3, "");
            boolean right = length == whole.length;
            Script.run(x, text.toString(), right ? GlyphCompiler.OK : GlyphCompiler.SHAPE, 0);
            replacements(x, right ? 1 : 0);
        }
        // Whatever stands elsewhere in the row.
        for (int n = 1; n <= 3; n++) {
            GlyphCompiler x = new GlyphCompiler();
            Script.macro(x, 1, n, "");
            Script.run(x, ") @1 ( ;", GlyphCompiler.SHAPE, 1);
            Script.run(x, ", @1 ( ;", GlyphCompiler.SHAPE, 1);
            Script.run(x, ") , @1 (", GlyphCompiler.SHAPE, 2);
        }
        Check.sentence("another WORD stands where comma or close must");
        String[] given = {"@1 ( )", "@1 ( 1 , 2 )", "@1 ( 1 , 2 , 3 )", "@1 ( 1 , 2 , 3 , 4 )"};
        for (int n = 1; n <= 3; n++) {
            for (int a = 0; a < given.length; a++) {
                GlyphCompiler x = new GlyphCompiler();
                Script.macro(x, 1, n, "");
                boolean right = n == (a == 0 ? 1 : a + 1);
                Script.run(x, given[a], right ? GlyphCompiler.OK : GlyphCompiler.SHAPE, 0);
            }
        }
        Check.sentence("An error's place is k (for SHAPE the k of the CALL).");
        GlyphCompiler x = new GlyphCompiler();
        Script.macro(x, 0, 0, "; ; @1 ( ;");
        Script.macro(x, 1, 1, "$0 $0");
        Script.run(x, "; @0 ) @1 ( ; , ; )", GlyphCompiler.SHAPE, 5);
        replacements(x, 2);
        Script.run(x, "; @0", GlyphCompiler.SHAPE, 3);
        replacements(x, 1);
        Script.run(x, Script.repeat(";", 119) + "@1", GlyphCompiler.SHAPE, 119);
    }

    private static void depths() {
        Check.sentence("the TOKENS of that argument, which keep their depths");
        GlyphCompiler x = new GlyphCompiler();
        Script.macro(x, 0, 1, "$0");
        Script.macro(x, 1, 0, ";");
        Script.run(x, Script.repeat("@0 (", 20) + "@1 " + Script.repeat(")", 20), GlyphCompiler.OK, 1);
        replacements(x, 21);
        Script.macro(x, 2, 0, "@0 ( @2 )");
        Script.run(x, "@2", GlyphCompiler.DEEP, 0);
        replacements(x, 11);
        Check.sentence("TOKENS of the body have the depth of the CALL plus 1");
        Script.macro(x, 3, 1, "@3 ( $0 ; )");
        Script.run(x, "@3 ( )", GlyphCompiler.DEEP, 0);
        replacements(x, 6);
        Script.macro(x, 4, 0, "@1 @5");
        Script.macro(x, 5, 0, "@1 @4");
        Script.run(x, "@1 @4", GlyphCompiler.DEEP, 6);
        replacements(x, 12);
        // Of a call of depth 0 that follows calls of greater depth: it is still of depth 0.
        Script.macro(x, 4, 0, "@1 @5");
        Script.macro(x, 5, 0, ";");
        Script.run(x, Script.repeat("@4", 33), GlyphCompiler.OK, 66);
        replacements(x, 99);
    }

    private static void goesOn() {
        Check.sentence("it goes on at the same place k");
        GlyphCompiler x = new GlyphCompiler();
        Script.macro(x, 0, 0, "@1 ;");
        Script.macro(x, 1, 0, "@2");
        Script.macro(x, 2, 0, "");
        Script.run(x, "@0", GlyphCompiler.OK, 1);
        replacements(x, 3);
        Script.run(x, "; @2 @2 $0", GlyphCompiler.STRAY, 1);
        Script.run(x, "@1 @1 @5", GlyphCompiler.UNDEFINED, 0);
        replacements(x, 4);
        Script.macro(x, 3, 1, "$0");
        // The open and the close of a call may come from behind the one that it stood in.
        Script.run(x, "@3 ( @3 ) ( ; )", GlyphCompiler.OK, 1);
        replacements(x, 2);
        Script.run(x, "@3 ( @3 ( ) ; )", GlyphCompiler.OK, 1);
        Check.sentence("Any other TOKEN: it goes on at k + 1.");
        Script.run(x, ") , ( = line 3/16 x11 between $1", GlyphCompiler.STRAY, 8);
        replacements(x, 0);
    }

    /** Macro 0 is of 40 tokens, 1 of two, 2 of none, and 3 takes its argument three times. */
    private static GlyphCompiler rowMacros() {
        GlyphCompiler x = new GlyphCompiler();
        Script.macro(x, 0, 0, Script.repeat(";", 40));
        Script.macro(x, 1, 0, "; ;");
        Script.macro(x, 2, 0, "");
        Script.macro(x, 3, 1, "$0 $0 $0");
        return x;
    }

    private static void longRows() {
        Check.sentence("If the ROW has more than 300 TOKENS then .. : error LONG.");
        GlyphCompiler x = rowMacros();
        String seven = Script.repeat("@0", 7);
        Script.run(x, seven + Script.repeat(";", 18) + "@1", GlyphCompiler.OK, 300);
        replacements(x, 8);
        Script.run(x, seven + Script.repeat(";", 19) + "@1", GlyphCompiler.LONG, 299);
        replacements(x, 8);
        Script.run(x, seven + Script.repeat(";", 20) + "@2", GlyphCompiler.LONG, 240);
        replacements(x, 7);
        // Looked at after each replacement, whatever would come of the row later.
        Script.run(x, "@2 " + seven + Script.repeat(";", 20) + "@2", GlyphCompiler.LONG, 240);
        replacements(x, 8);
        Script.run(x, Script.repeat(";", 20) + "@2 " + seven, GlyphCompiler.OK, 300);
        Script.run(x, Script.repeat(";", 19) + seven + "@2", GlyphCompiler.OK, 299);
        // Tokens of arguments count as often as the body takes them.
        Script.run(rowMacros(), "@3 ( " + Script.repeat(";", 100) + ")", GlyphCompiler.OK, 300);
        Script.run(rowMacros(), "@3 ( " + Script.repeat(";", 100) + ") ;", GlyphCompiler.LONG, 0);
        Script.run(rowMacros(), "; @3 ( " + Script.repeat(";", 100) + ")", GlyphCompiler.LONG, 1);
        Script.run(rowMacros(), "@3 ( " + Script.repeat(";", 101) + ")", GlyphCompiler.LONG, 0);
        argumentsOfManyLengths();
        // No statement of a row that is too long is carried out.
        x = rowMacros();
        Script.run(x, "show 1 ; @3 ( " + Script.repeat(";", 100) + ")", GlyphCompiler.LONG, 3);
        Check.due("count(7)", x.count(7), 0);
        Check.due("count(6)", x.count(6), 0);
        Script.run(x, "; ;");
        Script.run(x, "; ; @3 ( " + Script.repeat(";", 100) + ")", GlyphCompiler.LONG, 2);
        Check.due("count(7)", x.count(7), 2);
    }

    /** Each argument counts with its own length, and one that the body does not take counts for nothing. */
    private static void argumentsOfManyLengths() {
        for (int taken = 0; taken < 3; taken++) {
            String[] given = {"", "", ""};
            given[taken] = Script.repeat(";", 100);
            String body = Script.repeat("$" + taken, 3);
            taking(body, given, 300);
            given[taken] = Script.repeat(";", 101);
            taking(body, given, 303);
            given[(taken + 1) % 3] = Script.repeat(";", 7);
            taking(body + "; $" + (taken + 2) % 3, given, 304);
            String[] others = {Script.repeat(";", 50), Script.repeat(";", 50), Script.repeat(";", 50)};
            others[taken] = "; ;";
            taking(Script.repeat("$" + taken, 40), others, 80);
        }
        String[] given = {Script.repeat(";", 10), Script.repeat(";", 20), Script.repeat(";", 40)};
        taking("$0 $1 $2 $2 $2 $2 $2 $1 $1 $0 $0 $0", given, 300);
        taking("$0 $1 $2 $2 $2 $2 $2 $1 $1 $0 $0 $0 ;", given, 301);
    }

    /** The body taking the arguments: a row of that length, or too long a one. */
    private static void taking(String body, String[] given, int length) {
        GlyphCompiler x = new GlyphCompiler();
        Script.macro(x, 4, 3, body);
        boolean right = length <= 300;
        Script.run(x, "@4 ( " + String.join(" , ", given) + " )", right ? GlyphCompiler.OK : GlyphCompiler.LONG, right ? length : 0);
        replacements(x, 1);
    }

    /** Runs the text on a new object: macro 0 and macro 1, which has a parameter, have no tokens, macro 3 has 40. */
    private static void counted(String text, int error, int place, int replacements) {
        GlyphCompiler x = new GlyphCompiler();
        Script.macro(x, 0, 0, "");
        Script.macro(x, 1, 1, "");
        Script.macro(x, 3, 0, Script.repeat(";", 40));
        Script.run(x, text, error, place);
        replacements(x, replacements);
        // They are counted anew in each run.
        Script.run(x, Script.repeat("@0", 100), GlyphCompiler.OK, 0);
        replacements(x, 100);
        Script.run(x, "@0", GlyphCompiler.OK, 0);
        replacements(x, 1);
        Script.run(x, ";");
        replacements(x, 0);
    }

    private static void manyReplacements() {
        Check.sentence("or this was the 101st replacement: error LONG.");
        String hundred = Script.repeat("@0", 100);
        counted(Script.repeat("@0", 99), GlyphCompiler.OK, 0, 99);
        counted(hundred, GlyphCompiler.OK, 0, 100);
        counted(hundred + "@0", GlyphCompiler.LONG, 0, 101);
        counted("; " + hundred + "; @0 ;", GlyphCompiler.LONG, 2, 101);
        counted(hundred + "; @1 ( )", GlyphCompiler.LONG, 1, 101);
        // What is no replacement is not the 101st.
        counted(hundred + "; @1 (", GlyphCompiler.SHAPE, 1, 100);
        counted(hundred + "; @2", GlyphCompiler.UNDEFINED, 1, 100);
        counted(hundred + "; $0", GlyphCompiler.STRAY, 1, 100);
        counted(hundred + "show 1 ;", GlyphCompiler.OK, 3, 100);
        // As many as there may be, in a row as long as it may be.
        counted(Script.repeat("@0", 93) + Script.repeat(";", 20) + Script.repeat("@3", 7), GlyphCompiler.OK, 300, 100);
        counted(Script.repeat("@0", 93) + Script.repeat(";", 19) + Script.repeat("@3", 7) + "@0", GlyphCompiler.LONG, 299, 101);
    }
}
