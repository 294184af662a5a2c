/** The boundary cases of promises 5, 6 and 15, and of refused calls, sentence by sentence. */
final class AnswerBoundsTest {
    private static final String SQUARE = "( 2 , 2 ) line ( 5 , 2 ) line ( 5 , 4 ) line ( 2 , 4 ) line cycle ;";

    /** Programs for an object with the macros of `filled`, with each error of run and the place of it. */
    private static final Object[][] ERRORS = {
        {"; $1", GlyphCompiler.STRAY, 1}, {"; @5 ( )", GlyphCompiler.UNDEFINED, 1}, {"; @2", GlyphCompiler.DEEP, 1},
        {"; @1 ( ; ,", GlyphCompiler.SHAPE, 1}, {"; @3 ( @3 ( ; ; ; ; ; ; ; ; ) )", GlyphCompiler.LONG, 1},
        {"; show 1 1 ;", GlyphCompiler.SYNTAX, 3}, {"; show ( ( ( ( ( ( ( ( ( 1", GlyphCompiler.DEEP, 10},
        {"; show 1000 ( 1000 ( 2 ) ) ;", GlyphCompiler.RANGE, 9}, {"; 1 = 2 ;", GlyphCompiler.CONFLICT, 4},
        {"; 3 x9 = 2 ;", GlyphCompiler.HARD, 5}, {"; show x9 ;", GlyphCompiler.UNKNOWN, 3},
        {"; fill ( 1/16 ( 1/16 ) , 1 ) line cycle ;", GlyphCompiler.GRID, 12}, {"; fill ( 97 , 1 ) line cycle ;", GlyphCompiler.RANGE, 9}};

    public static void main(String[] args) {
        inputIsEmptyThen();
        places();
        inputsAndMacros();
        notesAndStatements();
        replacements();
        outOfRange();
        refusedChangesNothing();
        otherCallsChangeTheirOwn();
        lastCalls();
        Check.end();
    }

    /** An object that has something of everything. */
    private static GlyphCompiler filled() {
        GlyphCompiler x = new GlyphCompiler();
        Script.macro(x, 0, 0, "; ;");
        Script.macro(x, 1, 2, "show $1 ; $0");
        Script.macro(x, 2, 0, "@2");
        Script.macro(x, 3, 1, Script.repeat("$0", 40));
        Script.run(x, "x0 = 3 ; 2 x1 = 5 x2 ; show 7 ; @1 ( ; , - 8 ) fill " + SQUARE, GlyphCompiler.OK, 45);
        return x;
    }

    private static void inputIsEmptyThen() {
        Check.sentence("RUNS the INPUT, which is empty then, whatever comes");
        for (Object[] error : ERRORS) {
            GlyphCompiler x = filled();
            Script.run(x, (String) error[0], (Integer) error[1], (Integer) error[2]);
            Check.due("wipe() after " + error[0], x.wipe(), 0);
            Check.due("run() of an empty input after " + error[0], x.run(), GlyphCompiler.OK);
            Check.due("place()", x.place(), 0);
            Check.due("feed(4, 6)", x.feed(4, 6), 1);
        }
        GlyphCompiler x = filled();
        Script.run(x, ";");
        Check.due("wipe()", x.wipe(), 0);
        // A full input is empty then, too.
        Script.run(x, Script.repeat(";", 120), GlyphCompiler.OK, 120);
        Script.run(x, Script.repeat(";", 119) + "show", GlyphCompiler.SYNTAX, 120);
        Script.feed(x, Script.repeat(";", 120));
        Check.due("feed(4, 6)", x.feed(4, 6), GlyphCompiler.FULL);
    }

    private static void places() {
        Check.sentence("-1 before the first run.");
        GlyphCompiler x = new GlyphCompiler();
        Check.due("place()", x.place(), -1);
        Script.feed(x, "; ; ;");
        x.wipe();
        Script.macro(x, 0, 0, ";");
        x.forget();
        x.clean();
        Script.feed(x, "@0 show x0 ;");
        Check.due("place()", x.place(), -1);
        Check.sentence("The place of the last run's error in its ROW, as it was expanded by then");
        Check.due("run()", x.run(), GlyphCompiler.UNKNOWN);
        Check.due("place()", x.place(), 3);
        Script.macro(x, 0, 0, Script.repeat(";", 40));
        Script.run(x, "@0 $0 @0", GlyphCompiler.STRAY, 40);
        Script.run(x, "@0 @0 show", GlyphCompiler.SYNTAX, 81);
        Script.run(x, Script.repeat("@0", 7) + Script.repeat(";", 18) + "show =", GlyphCompiler.SYNTAX, 299);
        Script.run(x, Script.repeat("@0", 7) + Script.repeat(";", 19) + "show", GlyphCompiler.SYNTAX, 300);
        Script.run(x, Script.repeat("@0", 7) + Script.repeat(";", 17) + "show x0 ;", GlyphCompiler.UNKNOWN, 299);
        Script.run(x, "$0", GlyphCompiler.STRAY, 0);
        // It stays until the next run.
        Script.run(x, "; $0", GlyphCompiler.STRAY, 1);
        Script.feed(x, "; ; ;");
        x.wipe();
        x.forget();
        x.clean();
        Check.due("macro(6, 0)", x.macro(6, 0), GlyphCompiler.REFUSED);
        Check.due("place()", x.place(), 1);
        Check.sentence("the ROW's length if there was none");
        Script.run(x, "", GlyphCompiler.OK, 0);
        Script.run(x, ";", GlyphCompiler.OK, 1);
        Script.run(x, "@0", GlyphCompiler.OK, 40);
        Script.run(x, Script.repeat("@0", 7) + Script.repeat(";", 20), GlyphCompiler.OK, 300);
    }

    private static void due(GlyphCompiler x, int what, int want) {
        Check.due("count(" + what + ")", x.count(what), want);
    }

    private static void inputsAndMacros() {
        Check.sentence("0: TOKENS of the INPUT");
        GlyphCompiler x = new GlyphCompiler();
        due(x, 0, 0);
        for (int there = 1; there <= 120; there++) {
            x.feed(4, 6);
        }
        due(x, 0, 120);
        x.feed(4, 6);
        due(x, 0, 120);
        x.run();
        due(x, 0, 0);
        Script.feed(x, "; ;");
        due(x, 0, 2);
        x.macro(0, 0);
        due(x, 0, 0);
        Check.sentence("9 .. 14: TOKENS of macro what - 9, -2 if it is not defined.");
        due(x, 9, 2);
        for (int what = 10; what <= 14; what++) {
            due(x, what, -2);
        }
        for (int m = 5; m >= 0; m--) {
            Script.macro(x, m, 0, "");
            due(x, 9 + m, 0);
            Script.macro(x, m, 3, Script.repeat("$2", 40 - m));
            due(x, 9 + m, 40 - m);
        }
        for (int m = 0; m <= 5; m++) {
            due(x, 9 + m, 40 - m);
        }
    }

    private static void notesAndStatements() {
        Check.sentence("6: numbers noted");
        GlyphCompiler x = new GlyphCompiler();
        due(x, 6, 0);
        Script.run(x, Script.repeat("show 1 ;", 9));
        due(x, 6, 9);
        Script.run(x, "show 1 ; show x0 ; show 1 ;", GlyphCompiler.UNKNOWN, 5);
        due(x, 6, 10);
        Script.run(x, "show 1 ; show 1", GlyphCompiler.SYNTAX, 5);
        due(x, 6, 11);
        Check.sentence("7: STATEMENTS carried out since the beginning");
        due(x, 7, 11);
        Script.run(x, "; x0 = 1 ; x0 = 1 ; fill " + SQUARE + " erase " + SQUARE + " show 1 ;");
        due(x, 7, 17);
        for (Object[] error : ERRORS) {
            GlyphCompiler y = filled();
            int before = y.count(7);
            Script.run(y, (String) error[0], (Integer) error[1], (Integer) error[2]);
            boolean whileExpanding = (Integer) error[1] >= GlyphCompiler.LONG && !((String) error[0]).contains("show");
            due(y, 7, whileExpanding ? before : before + 1);
        }
        x.forget();
        x.clean();
        x.wipe();
        Script.run(x, "");
        due(x, 7, 17);
    }

    private static void replacements() {
        Check.sentence("8: replacements in the last run");
        GlyphCompiler x = new GlyphCompiler();
        due(x, 8, 0);
        Script.macro(x, 0, 0, "");
        due(x, 8, 0);
        Script.run(x, "@0 @0 @0", GlyphCompiler.OK, 0);
        due(x, 8, 3);
        Script.feed(x, "@0 @0");
        due(x, 8, 3);
        x.wipe();
        due(x, 8, 3);
        Script.run(x, "@0 @0 $0 @0", GlyphCompiler.STRAY, 0);
        due(x, 8, 2);
        Script.run(x, "@0 show", GlyphCompiler.SYNTAX, 1);
        due(x, 8, 1);
        Script.run(x, "@5", GlyphCompiler.UNDEFINED, 0);
        due(x, 8, 0);
        Script.run(x, "@0", GlyphCompiler.OK, 0);
        Script.run(x, "", GlyphCompiler.OK, 0);
        due(x, 8, 0);
    }

    private static void outOfRange() {
        Check.sentence("Else REFUSED.");
        for (GlyphCompiler x : new GlyphCompiler[] {new GlyphCompiler(), filled()}) {
            for (int what : new int[] {-1, -2, -9, 15, 16, 23, 24, 256, Integer.MIN_VALUE, Integer.MIN_VALUE + 8, Integer.MIN_VALUE + 9, Integer.MAX_VALUE}) {
                due(x, what, GlyphCompiler.REFUSED);
            }
        }
    }

    private static void refusedChangesNothing() {
        Check.sentence("A refused call changes nothing.");
        int[] outside = {Integer.MIN_VALUE, -1, 32, 1000000, Integer.MAX_VALUE};
        GlyphCompiler x = filled();
        String input = "@0 ; show 1 + $0 = 2";
        Script.feed(x, input);
        String before = Look.at(x);
        for (int o : outside) {
            Check.due("feed(" + o + ", 0)", x.feed(o, 0), GlyphCompiler.REFUSED);
            Check.due("feed(4, " + o + ")", x.feed(4, o), GlyphCompiler.REFUSED);
            Check.due("macro(" + o + ", 1)", x.macro(o, 1), GlyphCompiler.REFUSED);
            Check.due("macro(1, " + o + ")", x.macro(1, o), GlyphCompiler.REFUSED);
            Check.due("state(" + o + ")", x.state(o), GlyphCompiler.REFUSED);
            Check.due("stretch(" + o + ", 0)", x.stretch(o, 0), GlyphCompiler.REFUSED);
            Check.due("count(" + o + ")", x.count(o), GlyphCompiler.REFUSED);
        }
        Check.due("macro(1, 0) with an argument", x.macro(1, 0), GlyphCompiler.REFUSED);
        Check.due("all after refused calls", Look.at(x), before);
        // The tokens themselves are as they were, and so are the macros.
        Check.due("run()", x.run(), GlyphCompiler.STRAY);
        Check.due("place()", x.place(), 6);
        Script.run(x, "@1 ( ; , 9 )", GlyphCompiler.OK, 4);
        Check.due("shown(0)", x.shown(0), 9 * 65536);
        refusedBodies();
        Check.sentence("Numbers out of their ranges are REFUSED in every call.");
        // In a full input, too: what is out of its range is looked at first.
        Script.feed(x, Script.repeat(";", 120));
        Check.due("feed(0, 16001)", x.feed(0, 16001), GlyphCompiler.REFUSED);
        Check.due("feed(5, 0)", x.feed(5, 0), GlyphCompiler.REFUSED);
        Check.due("feed(0, 16000)", x.feed(0, 16000), GlyphCompiler.FULL);
        Check.due("macro(6, 0)", x.macro(6, 0), GlyphCompiler.REFUSED);
        Check.due("wipe()", x.wipe(), 120);
    }

    private static void refusedBodies() {
        GlyphCompiler x = filled();
        Script.feed(x, Script.repeat(";", 38) + "show 5 ;");
        Check.due("macro(1, 2) of 41", x.macro(1, 2), GlyphCompiler.REFUSED);
        Check.due("run()", x.run(), GlyphCompiler.OK);
        Check.due("shown(0)", x.shown(0), 5 * 65536);
        Script.feed(x, Script.repeat(";", 117) + "show 6 ;");
        Check.due("feed(4, 0)", x.feed(4, 0), GlyphCompiler.FULL);
        Check.due("macro(1, 2) of 120", x.macro(1, 2), GlyphCompiler.REFUSED);
        Check.due("run()", x.run(), GlyphCompiler.OK);
        Check.due("shown(0)", x.shown(0), 6 * 65536);
        Script.run(x, "@1 ( ; , 9 )", GlyphCompiler.OK, 4);
    }

    /** Each call changes what it is for and nothing beside. */
    private static void otherCallsChangeTheirOwn() {
        Check.sentence("Nothing is promised beyond the answers and state changes described above");
        GlyphCompiler x = filled();
        Script.feed(x, "; ;");
        GlyphCompiler y = filled();
        String all = Look.at(y);
        Check.due("wipe()", x.wipe(), 2);
        Check.due("all after wipe()", Look.at(x), all);
        Script.feed(x, "; ;");
        Check.due("macro(0, 0)", x.macro(0, 0), GlyphCompiler.OK);
        Check.due("all after the same macro", Look.at(x), all);
        String variables = Look.variables(y);
        x = filled();
        x.forget();
        Check.due("all after forget()", Look.at(x), all.replace(variables, ""));
        x = filled();
        x.clean();
        Check.due("picture after clean()", Look.picture(x), "");
        Check.due("variables after clean()", Look.variables(x), variables);
        due(x, 6, 2);
        due(x, 7, 6);
        Check.due("place() after clean()", x.place(), 45);
        Check.due("shown(1) after clean()", x.shown(1), 7 * 65536);
        due(x, 10, 4);
    }

    private static void lastCalls() {
        Check.sentence("An object is used for at most 512 calls after it has been made");
        GlyphCompiler x = new GlyphCompiler();
        for (int call = 1; call <= 507; call += 3) {
            Check.due("feed(4, 6), call " + call, x.feed(4, 6), 1);
            Check.due("run(), call " + (call + 1), x.run(), GlyphCompiler.OK);
            Check.due("count(7), call " + (call + 2), x.count(7), call / 3 + 1);
        }
        Check.due("feed(4, 12), call 508", x.feed(4, 12), 1);
        Check.due("feed(0, 16), call 509", x.feed(0, 16), 2);
        Check.due("feed(4, 6), call 510", x.feed(4, 6), 3);
        Check.due("run(), call 511", x.run(), GlyphCompiler.OK);
        Check.due("shown(0), call 512", x.shown(0), 65536);
    }
}
