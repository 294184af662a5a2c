/** Counts the answers that are not due and ends the test by them. */
final class Check {
    private static int calls = 0;
    private static int wrong = 0;
    private static int sentences = 0;
    private static String sentence = "";
    private static int callsBefore = 0;

    private Check() {
    }

    /** What follows looks at this sentence of the document, which must get an answer at least. */
    static void sentence(String text) {
        endSentence();
        sentence = text;
        sentences++;
        callsBefore = calls;
    }

    private static void endSentence() {
        if (!sentence.isEmpty() && calls == callsBefore) {
            wrong++;
            System.out.println("\"" + sentence + "\" has no test");
        }
    }

    static void due(String call, long got, long want) {
        calls++;
        if (got != want) {
            wrong++;
            System.out.println(call + " answered " + got + ", due is " + want + about());
        }
    }

    static void due(String call, boolean got, boolean want) {
        due(call, got ? 1 : 0, want ? 1 : 0);
    }

    static void due(String call, String got, String want) {
        calls++;
        if (!got.equals(want)) {
            wrong++;
            System.out.println(call + " answered\n  " + got + ", due is\n  " + want + about());
        }
    }

    private static String about() {
        return sentence.isEmpty() ? "" : ", by \"" + sentence + "\"";
    }

    static void end() {
        endSentence();
        String about = sentences == 0 ? "" : " about " + sentences + " sentences";
        System.out.println(calls + " answers" + about + ", " + wrong + " not as due");
        if (wrong != 0 || calls == 0) {
            System.exit(1);
        }
    }
}
