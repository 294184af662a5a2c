/** All that can be seen of an object, as one text, in fewer calls than an object is good for. */
final class Look {
    private Look() {
    }

    static String at(GlyphCompiler x) {
        return "place " + x.place() + counts(x, 0, 14) + variables(x) + notes(x) + " " + picture(x);
    }

    /** What a run may change but the place, the input and the replacements: variables, notes, picture, statements. */
    static String results(GlyphCompiler x) {
        return counts(x, 6, 7) + variables(x) + notes(x) + " " + picture(x);
    }

    private static String counts(GlyphCompiler x, int from, int to) {
        StringBuilder text = new StringBuilder(" counts");
        for (int what = from; what <= to; what++) {
            text.append(' ').append(x.count(what));
        }
        return text.toString();
    }

    static String variables(GlyphCompiler x) {
        StringBuilder text = new StringBuilder();
        for (int v = 0; v < 12; v++) {
            int state = x.state(v);
            text.append(state == 0 ? "" : " x" + v + " = " + x.number(v));
            for (int w = 0; w < 12 && state == 1; w++) {
                long factor = x.factor(v, w);
                text.append(factor == 0 ? "" : " + " + factor + " x" + w);
            }
        }
        return text.toString();
    }

    private static String notes(GlyphCompiler x) {
        StringBuilder text = new StringBuilder(" notes");
        for (int k = 0; k < 8; k++) {
            text.append(' ').append(x.shown(k));
        }
        return text.toString();
    }

    /** The rows that have a black point: the row's number and its runs. */
    static String picture(GlyphCompiler x) {
        StringBuilder text = new StringBuilder();
        for (int j = 0; j < 24; j++) {
            int length = x.stretch(j, 0);
            text.append(length == -2 ? "" : j + ":");
            for (int k = 1; length != -2 && k < 34; k++) {
                text.append(length).append(k % 2 == 0 ? "# " : ". ");
                length = x.stretch(j, k);
            }
        }
        return text.toString();
    }

    /** The same text for a picture that is due, with black[i][j] for its points. */
    static String picture(boolean[][] black) {
        StringBuilder text = new StringBuilder();
        for (int j = 0; j < 24; j++) {
            StringBuilder row = new StringBuilder();
            for (int i = 0; i < 32; i++) {
                row.append(black[i][j] ? '#' : '.');
            }
            String upToBlack = row.substring(0, row.lastIndexOf("#") + 1);
            text.append(upToBlack.isEmpty() ? "" : j + ":" + runs(upToBlack));
        }
        return text.toString();
    }

    private static String runs(String row) {
        StringBuilder text = new StringBuilder();
        int from = 0;
        for (char colour = '.'; from < row.length(); colour = colour == '.' ? '#' : '.') {
            int to = from;
            while (to < row.length() && row.charAt(to) == colour) {
                to++;
            }
            text.append(to - from).append(colour).append(' ');
            from = to;
        }
        return text.toString();
    }
}
