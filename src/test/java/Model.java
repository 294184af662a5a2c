import java.math.BigDecimal;
import java.math.BigInteger;
import java.util.ArrayList;
import java.util.List;

/** The document once more, slow and plain, for comparing: exact decimals, lists, errors as exceptions. */
final class Model {
    private static final BigDecimal LARGEST = BigDecimal.valueOf(1 << 20);
    private static final BigDecimal PARTS = BigDecimal.valueOf(65536);

    /** A token with its depth. */
    record Token(int kind, int value, int depth) {
        boolean word(String word) {
            return kind == 4 && Script.WORDS.get(value).equals(word);
        }
    }

    /** A macro, with the number of its parameters. */
    record Body(int parameters, List<Token> tokens) {
    }

    private static final class Failure extends Exception {
        private static final long serialVersionUID = 1;
        final int error;
        final int place;

        Failure(int error, int place) {
            this.error = error;
            this.place = place;
        }
    }

    private List<Token> input = new ArrayList<>();
    private final Body[] macros = new Body[6];
    private List<Token> row = new ArrayList<>();
    private int lastPlace = -1;
    private int replacements;
    private int carriedOut;
    private int at;
    private boolean range;
    /** A free variable has none; the last of the thirteen is the number. */
    private BigDecimal[][] forms = new BigDecimal[12][];
    private final List<BigDecimal> notes = new ArrayList<>();
    private final boolean[][] picture = new boolean[32][24];

    int feed(int kind, int value) {
        int[] least = {-16000, 0, 0, 0, 0};
        int[] greatest = {16000, 11, 2, 5, 13};
        if (kind < 0 || kind > 4 || value < least[kind] || value > greatest[kind]) {
            return -1;
        }
        if (input.size() >= 120) {
            return -2;
        }
        input.add(new Token(kind, value, 0));
        return input.size();
    }

    int wipe() {
        int had = input.size();
        input = new ArrayList<>();
        return had;
    }

    int macro(int m, int n) {
        if (m < 0 || m > 5 || n < 0 || n > 3 || input.size() > 40) {
            return -1;
        }
        for (Token token : input) {
            if (token.kind == 2 && token.value >= n) {
                return -1;
            }
        }
        macros[m] = new Body(n, input);
        input = new ArrayList<>();
        return 0;
    }

    int run() {
        row = input;
        input = new ArrayList<>();
        replacements = 0;
        try {
            expand();
            at = 0;
            while (at < row.size()) {
                statement();
                carriedOut++;
            }
            lastPlace = row.size();
            return 0;
        } catch (Failure failure) {
            lastPlace = failure.place;
            return failure.error;
        }
    }

    private void expand() throws Failure {
        int k = 0;
        while (k < row.size()) {
            Token token = row.get(k);
            if (token.kind == 2) {
                throw new Failure(-3, k);
            }
            if (token.kind == 3) {
                replace(k, token);
            } else {
                k++;
            }
        }
    }

    private void replace(int k, Token call) throws Failure {
        Body macro = macros[call.value];
        if (macro == null) {
            throw new Failure(-4, k);
        }
        if (call.depth == 6) {
            throw new Failure(-5, k);
        }
        List<List<Token>> arguments = new ArrayList<>();
        int after = k + 1;
        for (int a = 0; a < macro.parameters; a++) {
            if (after >= row.size() || !row.get(after).word(a == 0 ? "(" : ",")) {
                throw new Failure(-6, k);
            }
            after++;
            List<Token> argument = new ArrayList<>();
            int inside = 0;
            while (after < row.size()) {
                Token token = row.get(after);
                if (inside == 0 && (token.word(",") || token.word(")"))) {
                    break;
                }
                inside += token.word("(") ? 1 : token.word(")") ? -1 : 0;
                argument.add(token);
                after++;
            }
            arguments.add(argument);
        }
        if (macro.parameters > 0) {
            if (after >= row.size() || !row.get(after).word(")")) {
                throw new Failure(-6, k);
            }
            after++;
        }
        List<Token> next = new ArrayList<>(row.subList(0, k));
        for (Token token : macro.tokens) {
            if (token.kind == 2) {
                next.addAll(arguments.get(token.value));
            } else {
                next.add(new Token(token.kind, token.value, call.depth + 1));
            }
        }
        next.addAll(row.subList(after, row.size()));
        row = next;
        replacements++;
        if (row.size() > 300 || replacements == 101) {
            throw new Failure(-7, k);
        }
    }

    private boolean next(String word) {
        return at < row.size() && row.get(at).word(word);
    }

    private boolean nextKind(int kind) {
        return at < row.size() && row.get(at).kind == kind;
    }

    private void take(String word) throws Failure {
        if (!next(word)) {
            throw new Failure(-8, at);
        }
        at++;
    }

    private void statement() throws Failure {
        range = false;
        if (next(";")) {
            at++;
        } else if (next("show")) {
            at++;
            BigDecimal[] value = expression(0);
            end();
            if (!plain(value)) {
                throw new Failure(-12, at - 1);
            }
            notes.add(0, value[12]);
        } else if (next("fill") || next("erase")) {
            boolean colour = next("fill");
            at++;
            path(colour);
        } else {
            List<BigDecimal[]> values = new ArrayList<>();
            values.add(expression(0));
            take("=");
            values.add(expression(0));
            while (next("=")) {
                at++;
                values.add(expression(0));
            }
            end();
            BigDecimal[][] before = forms.clone();
            try {
                for (int e = 1; e < values.size(); e++) {
                    equate(values.get(e - 1), values.get(e));
                }
            } catch (Failure failure) {
                forms = before;
                throw failure;
            }
        }
    }

    private void end() throws Failure {
        take(";");
        if (range) {
            throw new Failure(-9, at - 1);
        }
    }

    private static BigDecimal[] zero() {
        BigDecimal[] form = new BigDecimal[13];
        java.util.Arrays.fill(form, BigDecimal.ZERO);
        return form;
    }

    private static BigDecimal[] sum(BigDecimal[] a, BigDecimal[] b, BigDecimal factor) {
        BigDecimal[] form = new BigDecimal[13];
        for (int p = 0; p < 13; p++) {
            form[p] = a[p].add(b[p].multiply(factor));
        }
        return form;
    }

    private static boolean isNumber(BigDecimal value) {
        BigDecimal parts = value.multiply(PARTS);
        return value.abs().compareTo(LARGEST) <= 0 && parts.remainder(BigDecimal.ONE).signum() == 0;
    }

    private static boolean numbers(BigDecimal[] form) {
        for (BigDecimal part : form) {
            if (!isNumber(part)) {
                return false;
            }
        }
        return true;
    }

    private static boolean plain(BigDecimal[] form) {
        for (int v = 0; v < 12; v++) {
            if (form[v].signum() != 0) {
                return false;
            }
        }
        return true;
    }

    private BigDecimal[] checked(BigDecimal[] form) {
        if (!numbers(form)) {
            range = true;
        }
        return form;
    }

    private BigDecimal[] expression(int depth) throws Failure {
        BigDecimal[] value = term(depth);
        while (next("+") || next("-")) {
            BigDecimal sign = BigDecimal.valueOf(next("+") ? 1 : -1);
            at++;
            value = sum(value, term(depth), sign);
        }
        return checked(value);
    }

    private BigDecimal[] term(int depth) throws Failure {
        if (next("-")) {
            at++;
            return checked(sum(zero(), term(depth), BigDecimal.ONE.negate()));
        }
        if (!nextKind(0)) {
            return primary(depth);
        }
        BigDecimal constant = BigDecimal.valueOf(row.get(at).value).divide(BigDecimal.valueOf(16));
        at++;
        if (nextKind(1) || next("(")) {
            return checked(sum(zero(), primary(depth), constant));
        }
        if (next("between")) {
            at++;
            open(depth);
            BigDecimal[] a = expression(depth + 1);
            take(",");
            BigDecimal[] b = expression(depth + 1);
            take(")");
            return checked(sum(a, sum(b, a, BigDecimal.ONE.negate()), constant));
        }
        BigDecimal[] value = zero();
        value[12] = constant;
        return value;
    }

    private void open(int depth) throws Failure {
        if (next("(") && depth == 8) {
            throw new Failure(-5, at);
        }
        take("(");
    }

    private BigDecimal[] primary(int depth) throws Failure {
        if (nextKind(1)) {
            at++;
            return variable(row.get(at - 1).value);
        }
        open(depth);
        BigDecimal[] value = expression(depth + 1);
        take(")");
        return value;
    }

    private BigDecimal[] variable(int v) {
        if (forms[v] != null) {
            return forms[v];
        }
        BigDecimal[] value = zero();
        value[v] = BigDecimal.ONE;
        return value;
    }

    private BigDecimal[] replaced(BigDecimal[] form) throws Failure {
        BigDecimal[] value = zero();
        value[12] = form[12];
        for (int v = 0; v < 12; v++) {
            value = sum(value, variable(v), form[v]);
        }
        if (!numbers(value)) {
            throw new Failure(-9, at - 1);
        }
        return value;
    }

    private void equate(BigDecimal[] first, BigDecimal[] second) throws Failure {
        BigDecimal[] d = sum(replaced(first), replaced(second), BigDecimal.ONE.negate());
        if (plain(d)) {
            if (d[12].signum() != 0) {
                throw new Failure(-10, at - 1);
            }
            return;
        }
        int chosen = -1;
        for (int power = 20; power >= -16 && chosen < 0; power--) {
            BigDecimal size = power < 0 ? BigDecimal.ONE.divide(new BigDecimal(BigInteger.TWO.pow(-power))) : new BigDecimal(BigInteger.TWO.pow(power));
            for (int v = 0; v < 12 && chosen < 0; v++) {
                chosen = d[v].abs().compareTo(size) == 0 ? v : -1;
            }
        }
        if (chosen < 0) {
            throw new Failure(-11, at - 1);
        }
        BigDecimal[] solved = zero();
        for (int p = 0; p < 13; p++) {
            solved[p] = p == chosen ? BigDecimal.ZERO : d[p].negate().divide(d[chosen]);
        }
        if (!numbers(solved)) {
            throw new Failure(-9, at - 1);
        }
        forms[chosen] = solved;
        for (int v = 0; v < 12; v++) {
            if (forms[v] != null) {
                forms[v] = replaced(forms[v]);
            }
        }
    }

    private BigDecimal[][] pair() throws Failure {
        take("(");
        BigDecimal[] x = expression(0);
        take(",");
        BigDecimal[] y = expression(0);
        take(")");
        return new BigDecimal[][] {x, y};
    }

    private void path(boolean colour) throws Failure {
        List<BigDecimal[][]> pairs = new ArrayList<>();
        List<Integer> legs = new ArrayList<>();
        pairs.add(pair());
        while (true) {
            if (next("curve")) {
                for (int p = 0; p < 3; p++) {
                    take("curve");
                    pairs.add(pair());
                }
                legs.add(3);
                continue;
            }
            take("line");
            if (next("cycle")) {
                at++;
                break;
            }
            pairs.add(pair());
            legs.add(1);
        }
        end();
        if (legs.size() > 12) {
            throw new Failure(-7, at - 1);
        }
        List<BigDecimal[]> points = new ArrayList<>();
        for (BigDecimal[][] pair : pairs) {
            points.add(new BigDecimal[] {coordinate(pair[0]), coordinate(pair[1])});
        }
        paint(outline(points, legs), colour);
    }

    private BigDecimal coordinate(BigDecimal[] form) throws Failure {
        if (!plain(form)) {
            throw new Failure(-12, at - 1);
        }
        if (form[12].multiply(BigDecimal.valueOf(16)).remainder(BigDecimal.ONE).signum() != 0) {
            throw new Failure(-13, at - 1);
        }
        if (form[12].compareTo(BigDecimal.valueOf(-32)) < 0 || form[12].compareTo(BigDecimal.valueOf(96)) > 0) {
            throw new Failure(-9, at - 1);
        }
        return form[12];
    }

    private static List<double[]> outline(List<BigDecimal[]> points, List<Integer> legs) {
        List<double[]> outline = new ArrayList<>();
        int from = 0;
        outline.add(new double[] {points.get(0)[0].doubleValue(), points.get(0)[1].doubleValue()});
        for (int leg : legs) {
            for (int t = 0; leg == 3 && t <= 8; t++) {
                outline.add(new double[] {curve(points, from, 0, t / 8.0), curve(points, from, 1, t / 8.0)});
            }
            from += leg;
            outline.add(new double[] {points.get(from)[0].doubleValue(), points.get(from)[1].doubleValue()});
        }
        outline.add(outline.get(0));
        return outline;
    }

    /** Exact: 13 bits behind the point and 8 before it. */
    private static double curve(List<BigDecimal[]> points, int from, int axis, double t) {
        double p = points.get(from)[axis].doubleValue();
        double q = points.get(from + 1)[axis].doubleValue();
        double r = points.get(from + 2)[axis].doubleValue();
        double s = points.get(from + 3)[axis].doubleValue();
        return (1 - t) * (1 - t) * (1 - t) * p + 3 * (1 - t) * (1 - t) * t * q + 3 * (1 - t) * t * t * r + t * t * t * s;
    }

    private void paint(List<double[]> outline, boolean colour) {
        for (int i = 0; i < 32; i++) {
            for (int j = 0; j < 24; j++) {
                double x = i + 0.5;
                double y = j + 0.5;
                int winding = 0;
                for (int p = 1; p < outline.size(); p++) {
                    double a = outline.get(p - 1)[0];
                    double b = outline.get(p - 1)[1];
                    double c = outline.get(p)[0];
                    double d = outline.get(p)[1];
                    double side = (c - a) * (y - b) - (x - a) * (d - b);
                    winding += b <= y && y < d && side > 0 ? 1 : d <= y && y < b && side < 0 ? -1 : 0;
                }
                picture[i][j] = winding != 0 ? colour : picture[i][j];
            }
        }
    }

    int place() {
        return lastPlace;
    }

    int forget() {
        forms = new BigDecimal[12][];
        return 0;
    }

    int clean() {
        for (boolean[] column : picture) {
            java.util.Arrays.fill(column, false);
        }
        return 0;
    }

    int state(int v) {
        if (v < 0 || v > 11) {
            return -1;
        }
        return forms[v] == null ? 0 : plain(forms[v]) ? 2 : 1;
    }

    long number(int v) {
        return state(v) > 0 ? forms[v][12].multiply(PARTS).longValueExact() : 1000000000000000L;
    }

    long factor(int v, int w) {
        return state(v) == 1 && w >= 0 && w <= 11 ? forms[v][w].multiply(PARTS).longValueExact() : 1000000000000000L;
    }

    boolean black(int i, int j) {
        return i >= 0 && i < 32 && j >= 0 && j < 24 && picture[i][j];
    }

    int stretch(int j, int k) {
        if (j < 0 || j > 23 || k < 0) {
            return -1;
        }
        StringBuilder points = new StringBuilder();
        for (int i = 0; i < 32; i++) {
            points.append(picture[i][j] ? '#' : '.');
        }
        List<Integer> lengths = new ArrayList<>();
        String rest = points.toString().replaceAll("\\.*$", "");
        while (!rest.isEmpty()) {
            String tail = lengths.size() % 2 == 0 ? rest.replaceAll("^\\.*", "") : rest.replaceAll("^#*", "");
            lengths.add(rest.length() - tail.length());
            rest = tail;
        }
        return k < lengths.size() ? lengths.get(k) : -2;
    }

    long shown(int k) {
        return k >= 0 && k < 8 && k < notes.size() ? notes.get(k).multiply(PARTS).longValueExact() : 1000000000000000L;
    }

    int count(int what) {
        int black = 0;
        int[] edges = {-2, -2, -2, -2};
        for (int i = 0; i < 32; i++) {
            for (int j = 0; j < 24; j++) {
                if (picture[i][j]) {
                    black++;
                    edges[0] = black == 1 ? i : Math.min(edges[0], i);
                    edges[1] = Math.max(edges[1], i);
                    edges[2] = black == 1 ? j : Math.min(edges[2], j);
                    edges[3] = Math.max(edges[3], j);
                }
            }
        }
        if (what >= 2 && what <= 5) {
            return edges[what - 2];
        }
        if (what >= 9 && what <= 14) {
            return macros[what - 9] == null ? -2 : macros[what - 9].tokens.size();
        }
        switch (what) {
            case 0:
                return input.size();
            case 1:
                return black;
            case 6:
                return notes.size();
            case 7:
                return carriedOut;
            case 8:
                return replacements;
            default:
                return -1;
        }
    }
}
