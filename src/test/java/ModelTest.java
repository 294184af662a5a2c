import java.util.ArrayList;
import java.util.List;
import java.util.Random;

/** All promises: runs made up at random, from fixed seeds, against the model. */
final class ModelTest {
    private static final int OBJECTS = 3000;
    private static final int LEAST_OF_EACH_ERROR = 5;

    /** An object is good for so many calls; the tokens of a program and of a body, at most; what is asked after a run. */
    private static final int CALLS_MOST = 512;
    private static final int PROGRAM_MOST = 125;
    private static final int BODY_MOST = 42;
    private static final int LOOKS = 30;

    /** What a definition and what a run take of the calls, at most. */
    private static final int DEFINING = BODY_MOST + 5;
    private static final int RUNNING = PROGRAM_MOST + 5 + LOOKS;

    private final Random random;
    private final GlyphCompiler x = new GlyphCompiler();
    private final Model model = new Model();
    private final int[] errors;
    private final StringBuilder story = new StringBuilder();
    private final int[] parameters = {-1, -1, -1, -1, -1, -1};
    private int calls;

    private ModelTest(long seed, int[] errors) {
        random = new Random(seed);
        this.errors = errors;
        story.append("seed ").append(seed).append(": ");
    }

    public static void main(String[] args) {
        int[] errors = new int[14];
        for (int seed = 1; seed <= OBJECTS; seed++) {
            new ModelTest(seed, errors).compare();
        }
        StringBuilder seen = new StringBuilder("errors of run met:");
        for (int e = 0; e < errors.length; e++) {
            seen.append(" ").append(-e).append(": ").append(errors[e]);
            Check.due("error " + -e + " is met often enough", e == 1 || e == 2 || errors[e] >= LEAST_OF_EACH_ERROR, true);
        }
        System.out.println(seen);
        Check.end();
    }

    private void compare() {
        while (callsLeft() > RUNNING) {
            while (!chance(3) && callsLeft() > DEFINING + RUNNING) {
                define();
            }
            feed(spoilt(program()), PROGRAM_MOST);
            runBoth();
            if (chance(5)) {
                story.append(" forget");
                same("forget()", x.forget(), model.forget());
            }
            if (chance(8)) {
                story.append(" clean");
                same("clean()", x.clean(), model.clean());
            }
            look(LOOKS);
        }
        look(callsLeft());
    }

    private int callsLeft() {
        return CALLS_MOST - calls;
    }

    private void same(String call, long got, long want) {
        calls++;
        if (got != want) {
            System.out.println(story);
        }
        Check.due(call, got, want);
    }

    private boolean chance(int oneIn) {
        return random.nextInt(oneIn) == 0;
    }

    private int number(int least, int greatest) {
        return least + random.nextInt(greatest - least + 1);
    }

    private void feed(String text, int most) {
        story.append(" / ").append(text);
        List<int[]> tokens = Script.tokens(text);
        for (int[] token : tokens.subList(0, Math.min(tokens.size(), most))) {
            same("feed", x.feed(token[0], token[1]), model.feed(token[0], token[1]));
        }
        if (chance(30)) {
            int kind = number(-1, 5);
            int value = number(-17000, 17000) / (chance(2) ? 1 : 1000);
            same("feed(" + kind + ", " + value + ")", x.feed(kind, value), model.feed(kind, value));
        }
        if (chance(40)) {
            same("wipe()", x.wipe(), model.wipe());
        }
    }

    private void define() {
        int n = number(0, 3);
        int m = chance(20) ? number(-1, 6) : number(0, 5);
        feed(spoilt(body(n)), BODY_MOST);
        int answer = model.macro(m, n);
        story.append(" macro(").append(m).append(", ").append(n).append(")");
        same("macro", x.macro(m, n), answer);
        if (answer == GlyphCompiler.OK) {
            parameters[m] = n;
        }
    }

    private void runBoth() {
        int error = model.run();
        same("run()", x.run(), error);
        errors[-error]++;
    }

    /** Asks for so many answers: more than an object has calls could be asked for, so chance takes some of them. */
    private void look(int answers) {
        for (int answer = 0; answer < answers; answer++) {
            int v = number(-1, 12);
            int j = number(-1, 24);
            switch (random.nextInt(8)) {
                case 0:
                    same("place()", x.place(), model.place());
                    break;
                case 1:
                    int what = number(-1, 15);
                    same("count(" + what + ")", x.count(what), model.count(what));
                    break;
                case 2:
                    same("state(" + v + ")", x.state(v), model.state(v));
                    break;
                case 3:
                    same("number(" + v + ")", x.number(v), model.number(v));
                    break;
                case 4:
                    int w = number(-1, 12);
                    same("factor(" + v + ", " + w + ")", x.factor(v, w), model.factor(v, w));
                    break;
                case 5:
                    int k = number(-1, 8);
                    same("shown(" + k + ")", x.shown(k), model.shown(k));
                    break;
                case 6:
                    int i = number(-1, 32);
                    same("black(" + i + ", " + j + ")", x.black(i, j) ? 1 : 0, model.black(i, j) ? 1 : 0);
                    break;
                default:
                    int run = number(-1, 6);
                    same("stretch(" + j + ", " + run + ")", x.stretch(j, run), model.stretch(j, run));
            }
        }
    }

    private String spoilt(String text) {
        if (!chance(4)) {
            return text;
        }
        List<int[]> tokens = new ArrayList<>(Script.tokens(text));
        int[] other = Script.tokens(List.of("x3", "5", "@1", "$0", "(", ")", ",", ";", "=", "+", "-", "line", "between", "x0 1")
            .get(random.nextInt(14))).get(0);
        int at = random.nextInt(tokens.size() + 1);
        if (at == tokens.size() || chance(3)) {
            tokens.add(at, other);
        } else if (chance(2)) {
            tokens.remove(at);
        } else {
            tokens.set(at, other);
        }
        return Script.text(tokens);
    }

    private String body(int n) {
        switch (random.nextInt(5)) {
            case 0:
                return chance(2) ? Script.repeat(";", number(0, 41)) : call(1) + " " + call(1);
            case 1:
                return statement();
            case 2:
                return n == 0 ? expression(2) : "show $" + random.nextInt(n) + " + " + expression(2) + " ;";
            case 3:
                return n == 0 ? pair() : "( $" + random.nextInt(n) + " , $" + random.nextInt(n) + " )";
            default:
                return n == 0 ? "x1 = x2 + 1 ;" : "$" + random.nextInt(n) + " $" + random.nextInt(n) + " " + call(1);
        }
    }

    private String program() {
        StringBuilder text = new StringBuilder();
        int statements = number(1, 5);
        for (int s = 0; s < statements; s++) {
            text.append(chance(4) ? call(2) : statement()).append(" ");
        }
        return text.toString();
    }

    private String call(int depth) {
        int m = number(0, 5);
        if (parameters[m] < 0 && !chance(30)) {
            return ";";
        }
        StringBuilder text = new StringBuilder("@" + m);
        int given = chance(8) ? number(0, 3) : parameters[m];
        for (int a = 0; a < given; a++) {
            text.append(a == 0 ? " ( " : " , ");
            switch (random.nextInt(4)) {
                case 0:
                    text.append(depth > 0 ? call(depth - 1) : ";");
                    break;
                case 1:
                    text.append(statement());
                    break;
                default:
                    text.append(expression(1));
            }
        }
        return text.append(given > 0 ? " ) " : " ").toString();
    }

    private String statement() {
        switch (random.nextInt(8)) {
            case 0:
                return "show " + expression(2) + " ;";
            case 1:
            case 2:
                return (chance(3) ? "erase " : "fill ") + path() + " ;";
            case 3:
                return chance(3) ? ";" : "show " + scaled(2) + " ;";
            case 4:
                return scaled(2) + " = " + scaled(2) + " ;";
            default:
                StringBuilder text = new StringBuilder(expression(2));
                do {
                    text.append(" = ").append(expression(2));
                } while (chance(3));
                return text.append(" ;").toString();
        }
    }

    /** Products of large and small constants, which come near the ends of the range. */
    private String scaled(int depth) {
        String[] constants = {"1/16", "8/16", "2", "16", "64", "512", "1000", "-1/16", "-512", "3"};
        int times = number(1, 5);
        StringBuilder text = new StringBuilder();
        for (int t = 0; t < times; t++) {
            text.append(constants[random.nextInt(constants.length)]).append(" ( ");
        }
        text.append(chance(2) ? "x" + number(0, 5) : expression(depth - 1));
        return text.append(" )".repeat(times)).append(chance(3) ? " + " + expression(1) : "").toString();
    }

    private String constant() {
        switch (random.nextInt(6)) {
            case 0:
                return number(-40, 40) + "/16";
            case 1:
                return "1/16";
            case 2:
                return "" + (1 << number(0, 9));
            default:
                return "" + number(-3, 9);
        }
    }

    private String expression(int depth) {
        StringBuilder text = new StringBuilder(term(depth));
        while (chance(2)) {
            text.append(chance(3) ? " - " : " + ").append(term(depth));
        }
        return text.toString();
    }

    private String term(int depth) {
        String variable = "x" + (chance(6) ? number(0, 11) : number(0, 4));
        switch (random.nextInt(depth > 0 ? 8 : 5)) {
            case 0:
                return constant();
            case 1:
            case 2:
                return variable;
            case 3:
                return constant() + " " + variable;
            case 4:
                return "- " + (chance(2) ? variable : constant());
            case 5:
                return constant() + " between ( " + expression(depth - 1) + " , " + expression(depth - 1) + " )";
            case 6:
                return constant() + " ( " + expression(depth - 1) + " )";
            default:
                return chance(4) ? "( ".repeat(6) + expression(depth) + " )".repeat(6) : "( " + expression(depth - 1) + " )";
        }
    }

    private String coordinate() {
        switch (random.nextInt(12)) {
            case 0:
                return number(-3, 40) * 16 + 8 + "/16";
            case 1:
                return number(-40, 600) + "/16";
            case 2:
                return chance(6) ? constant() + " ( " + constant() + " )" : "4";
            case 3:
                return chance(6) ? expression(1) : "5";
            case 4:
                return chance(6) ? "" + number(-36, 100) : "12";
            default:
                return "" + number(-2, 34);
        }
    }

    private String pair() {
        return "( " + coordinate() + " , " + coordinate() + " )";
    }

    private String path() {
        StringBuilder text = new StringBuilder(pair());
        int legs = chance(12) ? number(10, 14) : number(0, 5);
        for (int leg = 0; leg < legs; leg++) {
            boolean curve = legs < 6 && chance(3);
            for (int p = 0; p < (curve ? 3 : 1); p++) {
                text.append(curve ? " curve " : " line ").append(pair());
            }
        }
        return text.append(" line cycle").toString();
    }
}
