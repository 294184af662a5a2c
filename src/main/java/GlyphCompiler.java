import java.util.Arrays;

/** Programs of tokens that state linear equations and paint areas; the result is a picture of points. */
public final class GlyphCompiler {
    public static final int OK = 0;
    public static final int REFUSED = -1;
    public static final int FULL = -2;
    public static final int STRAY = -3;
    public static final int UNDEFINED = -4;
    public static final int DEEP = -5;
    public static final int SHAPE = -6;
    public static final int LONG = -7;
    public static final int SYNTAX = -8;
    public static final int RANGE = -9;
    public static final int CONFLICT = -10;
    public static final int HARD = -11;
    public static final int UNKNOWN = -12;
    public static final int GRID = -13;
    public static final long NONE = 1000000000000000L;

    private static final int CONSTANT = 0;
    private static final int VARIABLE = 1;
    private static final int ARGUMENT = 2;
    private static final int CALL = 3;
    private static final int WORD = 4;

    private static final int PLUS = 0;
    private static final int MINUS = 1;
    private static final int EQUALS = 2;
    private static final int OPEN = 3;
    private static final int CLOSE = 4;
    private static final int COMMA = 5;
    private static final int END = 6;
    private static final int CURVE = 7;
    private static final int LINE = 8;
    private static final int CYCLE = 9;
    private static final int FILL = 10;
    private static final int ERASE = 11;
    private static final int SHOW = 12;
    private static final int BETWEEN = 13;

    private static final int CONSTANT_MOST = 16000;
    private static final int VARIABLES = 12;
    private static final int PARAMETERS_MOST = 3;
    private static final int MACROS = 6;
    private static final int WORDS = 14;
    private static final int INPUT_MOST = 120;
    private static final int BODY_MOST = 40;
    private static final int ROW_MOST = 300;
    private static final int LEGS_MOST = 12;
    private static final int NOTES_KEPT = 8;
    private static final int WIDTH = 32;
    private static final int HEIGHT = 24;

    private static final int FREE = 0;
    private static final int DEPENDENT = 1;
    private static final int KNOWN = 2;

    /** What calls of int answer where there is nothing to tell. */
    private static final int NOTHING = -2;

    /** One, and the 16th part of one, in the 65536ths in which all numbers are held. */
    private static final long ONE = 65536L;
    private static final long SIXTEENTH = 4096L;

    private final TokenRow input = new TokenRow(INPUT_MOST);
    private final Expander expander = new Expander();
    private final Reader reader = new Reader();
    private final Variables before = new Variables();
    private final Outline outline = new Outline();
    private final Picture picture = new Picture();
    private final long[] notes = new long[NOTES_KEPT];
    private int noted;
    private int carriedOut;
    private int lastPlace = -1;

    public GlyphCompiler() {
    }

    public int feed(int kind, int value) {
        if (!isToken(kind, value)) {
            return REFUSED;
        }
        if (input.length == INPUT_MOST) {
            return FULL;
        }
        input.add(kind, value, 0);
        return input.length;
    }

    private static boolean isToken(int kind, int value) {
        switch (kind) {
            case CONSTANT:
                return value >= -CONSTANT_MOST && value <= CONSTANT_MOST;
            case VARIABLE:
                return isBelow(value, VARIABLES);
            case ARGUMENT:
                return isBelow(value, PARAMETERS_MOST);
            case CALL:
                return isBelow(value, MACROS);
            case WORD:
                return isBelow(value, WORDS);
            default:
                return false;
        }
    }

    private static boolean isBelow(int value, int bound) {
        return value >= 0 && value < bound;
    }

    public int wipe() {
        int had = input.length;
        input.length = 0;
        return had;
    }

    public int macro(int m, int n) {
        if (!isBelow(m, MACROS) || !isBelow(n, PARAMETERS_MOST + 1)) {
            return REFUSED;
        }
        if (input.length > BODY_MOST || input.greatestArgument() >= n) {
            return REFUSED;
        }
        expander.define(m, n, input);
        input.length = 0;
        return OK;
    }

    public int run() {
        int error = expander.expand(input, reader.row);
        input.length = 0;
        lastPlace = expander.at;
        if (error != OK) {
            return error;
        }
        reader.at = 0;
        for (int statements = 0; statements < ROW_MOST && reader.at < reader.row.length; statements++) {
            if (!reader.readStatement()) {
                lastPlace = reader.at;
                return reader.error;
            }
            error = carryOut();
            if (error != OK) {
                lastPlace = reader.at - 1;
                return error;
            }
            carriedOut++;
        }
        return OK;
    }

    /** Carries out the statement that has just been read, or changes nothing and answers the error. */
    private int carryOut() {
        if (!reader.inRange) {
            return RANGE;
        }
        switch (reader.verb) {
            case SHOW:
                return note(reader.kept[0]);
            case FILL:
                return paint(true);
            case ERASE:
                return paint(false);
            case EQUALS:
                return equateAll();
            default:
                return OK;
        }
    }

    private int note(Form form) {
        if (!form.isPlain()) {
            return UNKNOWN;
        }
        notes[noted % NOTES_KEPT] = form.parts[Form.NUMBER];
        noted++;
        return OK;
    }

    private int equateAll() {
        before.copy(reader.variables);
        int error = OK;
        for (int e = 1; e < reader.keptCount && error == OK; e++) {
            error = reader.variables.equate(reader.kept[e - 1], reader.kept[e]);
        }
        if (error != OK) {
            reader.variables.copy(before);
        }
        return error;
    }

    private int paint(boolean colour) {
        if (reader.legCount > LEGS_MOST) {
            return LONG;
        }
        int error = outline.takeNumbers(reader.kept, reader.keptCount);
        if (error == OK) {
            outline.trace(reader.curves, reader.legCount);
            picture.paint(outline, colour);
        }
        return error;
    }

    public int place() {
        return lastPlace;
    }

    public int forget() {
        reader.variables.free();
        return OK;
    }

    public int clean() {
        picture.whiten();
        return OK;
    }

    public int state(int v) {
        return isBelow(v, VARIABLES) ? reader.variables.states[v] : REFUSED;
    }

    public long number(int v) {
        if (!isBelow(v, VARIABLES) || reader.variables.states[v] == FREE) {
            return NONE;
        }
        return reader.variables.forms[v].parts[Form.NUMBER];
    }

    public long factor(int v, int w) {
        if (!isBelow(v, VARIABLES) || !isBelow(w, VARIABLES) || reader.variables.states[v] != DEPENDENT) {
            return NONE;
        }
        return reader.variables.forms[v].parts[w];
    }

    public boolean black(int i, int j) {
        return isBelow(i, WIDTH) && isBelow(j, HEIGHT) && picture.isBlack(i, j);
    }

    public int stretch(int j, int k) {
        return isBelow(j, HEIGHT) && k >= 0 ? picture.lengthOfRun(j, k) : REFUSED;
    }

    public long shown(int k) {
        return isBelow(k, NOTES_KEPT) && k < noted ? notes[(noted - 1 - k) % NOTES_KEPT] : NONE;
    }

    public int count(int what) {
        switch (what) {
            case 0:
                return input.length;
            case 1:
                return picture.blackPoints();
            case 2:
                return picture.edge(true, false);
            case 3:
                return picture.edge(true, true);
            case 4:
                return picture.edge(false, false);
            case 5:
                return picture.edge(false, true);
            case 6:
                return noted;
            case 7:
                return carriedOut;
            case 8:
                return expander.replacements;
            default:
                return isBelow(what - 9, MACROS) ? expander.bodyLength(what - 9) : REFUSED;
        }
    }

    /** Tokens in a row; a token that does not come out of a macro has depth 0. */
    private static final class TokenRow {
        final int[] kinds;
        final int[] values;
        final int[] depths;
        int length;

        TokenRow(int most) {
            kinds = new int[most];
            values = new int[most];
            depths = new int[most];
        }

        boolean isKind(int at, int kind) {
            return at >= 0 && at < length && kinds[at] == kind;
        }

        boolean isWord(int at, int word) {
            return at >= 0 && at < length && kinds[at] == WORD && values[at] == word;
        }

        int greatestArgument() {
            int greatest = -1;
            for (int at = 0; at < length; at++) {
                if (kinds[at] == ARGUMENT) {
                    greatest = Math.max(greatest, values[at]);
                }
            }
            return greatest;
        }

        void add(int kind, int value, int depth) {
            if (length < kinds.length) {
                kinds[length] = kind;
                values[length] = value;
                depths[length] = depth;
                length++;
            }
        }

        void addAll(TokenRow other, int from, int to) {
            int more = Math.min(to - from, kinds.length - length);
            if (from >= 0 && more > 0) {
                System.arraycopy(other.kinds, from, kinds, length, more);
                System.arraycopy(other.values, from, values, length, more);
                System.arraycopy(other.depths, from, depths, length, more);
                length += more;
            }
        }

        void copy(TokenRow other) {
            length = 0;
            addAll(other, 0, other.length);
        }
    }

    /** The macros, and the replacing of their calls. */
    private static final class Expander {
        static final int NOT_DEFINED = -1;
        static final int DEPTH_MOST = 6;
        static final int REPLACEMENTS_MOST = 100;

        /** Each step goes on by a token or replaces a call. */
        static final int STEPS_MOST = ROW_MOST + REPLACEMENTS_MOST + 1;

        final TokenRow[] bodies = new TokenRow[MACROS];
        final int[] parameters = new int[MACROS];
        final TokenRow spare = new TokenRow(ROW_MOST);
        final int[] starts = new int[PARAMETERS_MOST];
        final int[] ends = new int[PARAMETERS_MOST];
        int at;
        int replacements;

        Expander() {
            for (int m = 0; m < MACROS; m++) {
                bodies[m] = new TokenRow(BODY_MOST);
                parameters[m] = NOT_DEFINED;
            }
        }

        void define(int m, int n, TokenRow body) {
            bodies[m].copy(body);
            parameters[m] = n;
        }

        int bodyLength(int m) {
            return parameters[m] == NOT_DEFINED ? NOTHING : bodies[m].length;
        }

        /** Ends with `at` at the error's place or at the row's end. */
        int expand(TokenRow program, TokenRow row) {
            row.copy(program);
            at = 0;
            replacements = 0;
            int error = OK;
            for (int steps = 0; steps < STEPS_MOST && at < row.length && error == OK; steps++) {
                if (row.kinds[at] == ARGUMENT) {
                    error = STRAY;
                } else if (row.kinds[at] == CALL) {
                    error = replaceCall(row);
                } else {
                    at++;
                }
            }
            return error;
        }

        private int replaceCall(TokenRow row) {
            int m = row.values[at];
            if (parameters[m] == NOT_DEFINED) {
                return UNDEFINED;
            }
            if (row.depths[at] >= DEPTH_MOST) {
                return DEEP;
            }
            int after = parameters[m] == 0 ? at + 1 : findArguments(row, parameters[m]);
            if (after == NOTHING) {
                return SHAPE;
            }
            replacements++;
            // A row that grows too long is never built: nothing but the error is seen of it.
            if (lengthAfter(row, bodies[m], after) > ROW_MOST || replacements > REPLACEMENTS_MOST) {
                return LONG;
            }
            putBody(row, bodies[m], after);
            return OK;
        }

        /** Sets starts and ends of the call's arguments; the place behind its close, or NOTHING. */
        private int findArguments(TokenRow row, int n) {
            if (!row.isWord(at + 1, OPEN)) {
                return NOTHING;
            }
            int next = at + 2;
            for (int a = 0; a < n; a++) {
                starts[a] = next;
                ends[a] = endOfArgument(row, next);
                if (!row.isWord(ends[a], a == n - 1 ? CLOSE : COMMA)) {
                    return NOTHING;
                }
                next = ends[a] + 1;
            }
            return next;
        }

        private static int endOfArgument(TokenRow row, int start) {
            int brackets = 0;
            for (int end = start; end < row.length; end++) {
                boolean close = row.isWord(end, CLOSE);
                if (brackets == 0 && (close || row.isWord(end, COMMA))) {
                    return end;
                }
                if (close) {
                    brackets--;
                } else if (row.isWord(end, OPEN)) {
                    brackets++;
                }
            }
            return row.length;
        }

        private int lengthAfter(TokenRow row, TokenRow body, int after) {
            int length = at + row.length - after;
            for (int b = 0; b < body.length; b++) {
                int argument = body.values[b];
                length += body.kinds[b] == ARGUMENT ? ends[argument] - starts[argument] : 1;
            }
            return length;
        }

        private void putBody(TokenRow row, TokenRow body, int after) {
            int depth = row.depths[at] + 1;
            spare.length = 0;
            for (int b = 0; b < body.length; b++) {
                int value = body.values[b];
                if (body.kinds[b] == ARGUMENT) {
                    spare.addAll(row, starts[value], ends[value]);
                } else {
                    spare.add(body.kinds[b], value, depth);
                }
            }
            spare.addAll(row, after, row.length);
            row.length = at;
            row.addAll(spare, 0, spare.length);
        }
    }

    /** A number and a factor for each variable, all in 65536ths. */
    private static final class Form {
        static final int NUMBER = VARIABLES;
        static final int PARTS = VARIABLES + 1;
        static final long SIZE_MOST = ONE << 20;

        /** Factors are split here, so that the products of two numbers' parts fit in a long. */
        static final int SPLIT = 20;
        static final long LOW_BITS = (1L << SPLIT) - 1;

        final long[] parts = new long[PARTS];

        static Form[] row(int most) {
            Form[] forms = new Form[most];
            for (int f = 0; f < most; f++) {
                forms[f] = new Form();
            }
            return forms;
        }

        static boolean isNumber(long part) {
            return part >= -SIZE_MOST && part <= SIZE_MOST;
        }

        boolean hasNumbers() {
            boolean numbers = true;
            for (int p = 0; p < PARTS; p++) {
                numbers = numbers && isNumber(parts[p]);
            }
            return numbers;
        }

        boolean isPlain() {
            boolean plain = true;
            for (int v = 0; v < VARIABLES; v++) {
                plain = plain && parts[v] == 0;
            }
            return plain;
        }

        /** All parts 0 but one. */
        void set(int part, long value) {
            for (int p = 0; p < PARTS; p++) {
                parts[p] = p == part ? value : 0;
            }
        }

        void copy(Form other) {
            for (int p = 0; p < PARTS; p++) {
                parts[p] = other.parts[p];
            }
        }

        void add(Form other) {
            for (int p = 0; p < PARTS; p++) {
                parts[p] += other.parts[p];
            }
        }

        void subtract(Form other) {
            for (int p = 0; p < PARTS; p++) {
                parts[p] -= other.parts[p];
            }
        }

        /** Like all that follow: whether the result has numbers for its parts; if not, they are of no use. */
        boolean multiply(int sixteenths) {
            boolean numbers = true;
            for (int p = 0; p < PARTS; p++) {
                long product = parts[p] * sixteenths;
                parts[p] = product >> 4;
                numbers = numbers && (product & 15) == 0 && isNumber(parts[p]);
            }
            return numbers;
        }

        boolean setBetween(int sixteenths, Form a, Form b) {
            boolean numbers = true;
            for (int p = 0; p < PARTS; p++) {
                long product = 16 * a.parts[p] + sixteenths * (b.parts[p] - a.parts[p]);
                parts[p] = product >> 4;
                numbers = numbers && (product & 15) == 0 && isNumber(parts[p]);
            }
            return numbers;
        }

        /** The other form with each variable replaced by the form that it equals. */
        boolean setReplaced(Form other, Form[] equals) {
            boolean numbers = true;
            for (int p = 0; p < PARTS; p++) {
                long high = 0;
                long low = p == NUMBER ? other.parts[NUMBER] * ONE : 0;
                for (int v = 0; v < VARIABLES; v++) {
                    long factor = other.parts[v];
                    if (factor != 0) {
                        high += (factor >> SPLIT) * equals[v].parts[p];
                        low += (factor & LOW_BITS) * equals[v].parts[p];
                    }
                }
                high += low >> SPLIT;
                low &= LOW_BITS;
                parts[p] = (high << 4) + (low >> 16);
                numbers = numbers && (low & (ONE - 1)) == 0 && isNumber(parts[p]);
            }
            return numbers;
        }

        /** What variable v equals if the other form, in which it has a factor, is 0. */
        boolean setSolved(Form other, int v) {
            long divisor = -other.parts[v];
            if (divisor == 0) {
                return false;
            }
            boolean numbers = true;
            for (int p = 0; p < PARTS; p++) {
                long dividend = p == v ? 0 : other.parts[p] * ONE;
                parts[p] = dividend / divisor;
                numbers = numbers && dividend % divisor == 0 && isNumber(parts[p]);
            }
            return numbers;
        }
    }

    /** The variables and what they equal; a free one equals itself, so that replacing is the same for all. */
    private static final class Variables {
        final int[] states = new int[VARIABLES];
        final Form[] forms = Form.row(VARIABLES);
        private final Form difference = new Form();
        private final Form spare = new Form();

        Variables() {
            for (int v = 0; v < VARIABLES; v++) {
                forms[v].set(v, ONE);
            }
        }

        void free() {
            for (int v = 0; v < VARIABLES; v++) {
                states[v] = FREE;
                forms[v].set(v, ONE);
            }
        }

        void copy(Variables other) {
            for (int v = 0; v < VARIABLES; v++) {
                states[v] = other.states[v];
                forms[v].copy(other.forms[v]);
            }
        }

        /** With an error the variables are left half changed: the caller takes them back. */
        int equate(Form first, Form second) {
            if (!difference.setReplaced(first, forms) || !spare.setReplaced(second, forms)) {
                return RANGE;
            }
            difference.subtract(spare);
            if (difference.isPlain()) {
                return difference.parts[Form.NUMBER] == 0 ? OK : CONFLICT;
            }
            int v = chooseSolved();
            if (v == NOTHING) {
                return HARD;
            }
            return forms[v].setSolved(difference, v) && replaceInAll(v) ? OK : RANGE;
        }

        private int chooseSolved() {
            int chosen = NOTHING;
            long greatest = 0;
            for (int v = 0; v < VARIABLES; v++) {
                long size = Math.abs(difference.parts[v]);
                if (Long.bitCount(size) == 1 && size <= Form.SIZE_MOST && size > greatest) {
                    chosen = v;
                    greatest = size;
                }
            }
            return chosen;
        }

        private boolean replaceInAll(int v) {
            settle(v);
            for (int u = 0; u < VARIABLES; u++) {
                if (states[u] == DEPENDENT && forms[u].parts[v] != 0) {
                    if (!spare.setReplaced(forms[u], forms)) {
                        return false;
                    }
                    forms[u].copy(spare);
                    settle(u);
                }
            }
            return true;
        }

        private void settle(int v) {
            states[v] = forms[v].isPlain() ? KNOWN : DEPENDENT;
        }
    }

    /** Reads the row statement by statement and works out the expressions on the way. */
    private static final class Reader {
        static final int NESTED_MOST = 8;

        /** An expression takes a token at least, and one of equals, comma, close and end follows it. */
        static final int KEPT_MOST = ROW_MOST / 2;

        final TokenRow row = new TokenRow(ROW_MOST);
        final Variables variables = new Variables();
        int at;
        int error;

        /** Of the statement: its first word (equals for an equation), its expressions' values, its legs. */
        int verb;
        final Form[] kept = Form.row(KEPT_MOST);
        int keptCount;
        boolean inRange;
        final boolean[] curves = new boolean[LEGS_MOST];
        int legCount;

        /** For each depth of brackets: the expression, the term, and the first end of a between. */
        private final Form[] sums = Form.row(NESTED_MOST + 1);
        private final Form[] terms = Form.row(NESTED_MOST + 1);
        private final Form[] firsts = Form.row(NESTED_MOST + 1);

        /** False, with `at` at the error's place, if the tokens are no statement; else `at` is behind its end. */
        boolean readStatement() {
            keptCount = 0;
            legCount = 0;
            inRange = true;
            verb = row.isKind(at, WORD) ? row.values[at] : EQUALS;
            boolean read = true;
            switch (verb) {
                case END:
                    break;
                case SHOW:
                    at++;
                    read = readExpression(0) && keep();
                    break;
                case FILL:
                case ERASE:
                    at++;
                    read = readPath();
                    break;
                default:
                    verb = EQUALS;
                    read = readEquation();
            }
            return read && take(END);
        }

        private boolean readEquation() {
            boolean read = readExpression(0) && keep() && take(EQUALS) && readExpression(0) && keep();
            for (int more = 0; more < KEPT_MOST && read && row.isWord(at, EQUALS); more++) {
                at++;
                read = readExpression(0) && keep();
            }
            return read;
        }

        private boolean readPath() {
            boolean read = readPair();
            boolean closed = false;
            for (int legs = 0; legs < ROW_MOST && read && !closed; legs++) {
                if (row.isWord(at, CURVE)) {
                    countLeg(true);
                    read = take(CURVE) && readPair() && take(CURVE) && readPair() && take(CURVE) && readPair();
                } else if (!take(LINE)) {
                    read = false;
                } else if (row.isWord(at, CYCLE)) {
                    at++;
                    closed = true;
                } else {
                    countLeg(false);
                    read = readPair();
                }
            }
            return read;
        }

        private void countLeg(boolean curve) {
            if (legCount < LEGS_MOST) {
                curves[legCount] = curve;
            }
            legCount++;
        }

        private boolean readPair() {
            return take(OPEN) && readExpression(0) && keep() && take(COMMA) && readExpression(0) && keep() && take(CLOSE);
        }

        private boolean keep() {
            if (keptCount < KEPT_MOST) {
                kept[keptCount].copy(sums[0]);
                keptCount++;
            }
            return true;
        }

        private boolean take(int word) {
            boolean there = at < row.length && row.kinds[at] == WORD && row.values[at] == word;
            if (there) {
                at++;
            } else {
                error = SYNTAX;
            }
            return there;
        }

        /** Leaves the value in sums[depth]. */
        private boolean readExpression(int depth) {
            if (depth > NESTED_MOST) {
                // The place is that of the open, which has just been taken.
                at--;
                error = DEEP;
                return false;
            }
            Form sum = sums[depth];
            sum.set(Form.NUMBER, 0);
            boolean minus = false;
            boolean more = true;
            for (int read = 0; read < ROW_MOST && more; read++) {
                if (!readTerm(depth)) {
                    return false;
                }
                if (minus) {
                    sum.subtract(terms[depth]);
                } else {
                    sum.add(terms[depth]);
                }
                minus = row.isWord(at, MINUS);
                more = minus || row.isWord(at, PLUS);
                if (more) {
                    at++;
                }
            }
            inRange = sum.hasNumbers() && inRange;
            return true;
        }

        /** Leaves the value in terms[depth]. */
        private boolean readTerm(int depth) {
            Form term = terms[depth];
            // A loop, not a recursion: a row may hold hundreds of them.
            int sign = 1;
            while (at < row.length && row.isWord(at, MINUS)) {
                sign = -sign;
                at++;
            }
            if (!row.isKind(at, CONSTANT)) {
                return readPrimary(depth) && check(term.multiply(16 * sign));
            }
            int sixteenths = row.values[at];
            at++;
            if (row.isWord(at, BETWEEN)) {
                at++;
                return readEnds(depth)
                    && check(term.setBetween(sixteenths, firsts[depth], sums[depth + 1]))
                    && check(term.multiply(16 * sign));
            }
            if (row.isKind(at, VARIABLE) || row.isWord(at, OPEN)) {
                return readPrimary(depth) && check(term.multiply(sixteenths * sign));
            }
            term.set(Form.NUMBER, sixteenths * sign * SIXTEENTH);
            return true;
        }

        /** What is out of range is told only after the whole statement has been read. */
        private boolean check(boolean numbers) {
            inRange = inRange && numbers;
            return true;
        }

        /** Leaves the value in terms[depth]. */
        private boolean readPrimary(int depth) {
            if (row.isKind(at, VARIABLE)) {
                terms[depth].copy(variables.forms[row.values[at]]);
                at++;
                return true;
            }
            if (!take(OPEN) || !readExpression(depth + 1) || !take(CLOSE)) {
                return false;
            }
            terms[depth].copy(sums[depth + 1]);
            return true;
        }

        /** Leaves the first end in firsts[depth] and the second in sums[depth + 1]. */
        private boolean readEnds(int depth) {
            if (!take(OPEN) || !readExpression(depth + 1) || !take(COMMA)) {
                return false;
            }
            firsts[depth].copy(sums[depth + 1]);
            return readExpression(depth + 1) && take(CLOSE);
        }
    }

    /** The points of a path, in 8192ths: a coordinate is a 16th's multiple and a curve divides it by 512. */
    private static final class Outline {
        static final int STEPS = 8;
        static final int STEPS_CUBED = STEPS * STEPS * STEPS;
        static final int UNIT = 16 * STEPS_CUBED;
        static final int NUMBERS_MOST = 2 * (1 + 3 * LEGS_MOST);
        static final int POINTS_MOST = 1 + STEPS * LEGS_MOST + 1;

        /** The numbers of all pairs, in 16ths. */
        private final int[] numbers = new int[NUMBERS_MOST];
        final int[] xs = new int[POINTS_MOST];
        final int[] ys = new int[POINTS_MOST];
        int points;

        int takeNumbers(Form[] forms, int most) {
            for (int f = 0; f < most && f < NUMBERS_MOST; f++) {
                long part = forms[f].parts[Form.NUMBER];
                if (!forms[f].isPlain()) {
                    return UNKNOWN;
                }
                if (part % SIXTEENTH != 0) {
                    return GRID;
                }
                if (part < -32 * ONE || part > 96 * ONE) {
                    return RANGE;
                }
                numbers[f] = (int) (part / SIXTEENTH);
            }
            return OK;
        }

        void trace(boolean[] curves, int legs) {
            points = 0;
            int from = 0;
            addPoint(numbers[0] * STEPS_CUBED, numbers[1] * STEPS_CUBED);
            for (int leg = 0; leg < legs && leg < LEGS_MOST; leg++) {
                if (curves[leg]) {
                    addCurve(from);
                    from += 6;
                } else {
                    from += 2;
                    addPoint(numbers[from] * STEPS_CUBED, numbers[from + 1] * STEPS_CUBED);
                }
            }
            addPoint(xs[0], ys[0]);
        }

        private void addPoint(int x, int y) {
            if (points < POINTS_MOST) {
                xs[points] = x;
                ys[points] = y;
                points++;
            }
        }

        private void addCurve(int from) {
            for (int t = 1; t <= STEPS; t++) {
                addPoint(onCurve(from, t), onCurve(from + 1, t));
            }
        }

        private int onCurve(int from, int t) {
            int s = STEPS - t;
            return s * s * s * numbers[from]
                + 3 * s * s * t * numbers[from + 2]
                + 3 * s * t * t * numbers[from + 4]
                + t * t * t * numbers[from + 6];
        }
    }

    private static final class Picture {
        private final boolean[] points = new boolean[WIDTH * HEIGHT];
        private final int[] windings = new int[WIDTH];

        boolean isBlack(int i, int j) {
            return points[j * WIDTH + i];
        }

        void whiten() {
            for (int p = 0; p < points.length; p++) {
                points[p] = false;
            }
        }

        void paint(Outline outline, boolean colour) {
            for (int j = 0; j < HEIGHT; j++) {
                Arrays.fill(windings, 0);
                for (int end = 1; end < outline.points; end++) {
                    wind(outline, end, middle(j));
                }
                for (int i = 0; i < WIDTH; i++) {
                    if (windings[i] != 0) {
                        points[j * WIDTH + i] = colour;
                    }
                }
            }
        }

        private static long middle(int i) {
            return i * Outline.UNIT + Outline.UNIT / 2;
        }

        /** A piece counts for the middles on one side of it alone, so the first that it misses ends the row. */
        private void wind(Outline outline, int end, long y) {
            long a = outline.xs[end - 1];
            long b = outline.ys[end - 1];
            long c = outline.xs[end];
            long d = outline.ys[end];
            int turn = 0;
            if (b <= y && y < d) {
                turn = 1;
            } else if (d <= y && y < b) {
                turn = -1;
            }
            boolean beside = turn != 0;
            for (int i = 0; i < WIDTH && beside; i++) {
                beside = turn * ((c - a) * (y - b) - (middle(i) - a) * (d - b)) > 0;
                if (beside) {
                    windings[i] += turn;
                }
            }
        }

        int blackPoints() {
            int sum = 0;
            for (int p = 0; p < points.length; p++) {
                if (points[p]) {
                    sum++;
                }
            }
            return sum;
        }

        /** The least or greatest i (across) or j of a black point. */
        int edge(boolean across, boolean greatest) {
            int found = NOTHING;
            for (int p = 0; p < points.length; p++) {
                int here = across ? p % WIDTH : p / WIDTH;
                if (points[p] && (found == NOTHING || (greatest ? here > found : here < found))) {
                    found = here;
                }
            }
            return found;
        }

        int lengthOfRun(int j, int k) {
            int runs = 0;
            int length = 0;
            boolean colour = false;
            for (int i = 0; i < WIDTH; i++) {
                if (isBlack(i, j) != colour) {
                    if (runs == k) {
                        return length;
                    }
                    runs++;
                    length = 0;
                    colour = !colour;
                }
                length++;
            }
            // What is left is the row's last run: a white one does not count.
            return colour && runs == k ? length : NOTHING;
        }
    }
}
