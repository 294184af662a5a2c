/** The area that a path bounds, by the document's own words, in doubles: they hold all that comes up exactly. */
final class Area {
    private final boolean[][] inside = new boolean[32][24];

    /** Pieces lead from point to point and back to the first. */
    Area(double[]... outline) {
        for (int i = 0; i < 32; i++) {
            for (int j = 0; j < 24; j++) {
                int winding = 0;
                for (int p = 0; p < outline.length; p++) {
                    winding += turn(outline[p], outline[(p + 1) % outline.length], i + 0.5, j + 0.5);
                }
                inside[i][j] = winding != 0;
            }
        }
    }

    private static int turn(double[] from, double[] to, double x, double y) {
        double a = from[0];
        double b = from[1];
        double c = to[0];
        double d = to[1];
        double side = (c - a) * (y - b) - (x - a) * (d - b);
        if (b <= y && y < d && side > 0) {
            return 1;
        }
        return d <= y && y < b && side < 0 ? -1 : 0;
    }

    /** The nine points of a curve, and the others behind them. */
    static double[][] curve(double[][] four, double[]... others) {
        double[][] points = new double[9 + others.length][];
        for (int k = 0; k <= 8; k++) {
            points[k] = new double[] {onCurve(four, 0, k / 8.0), onCurve(four, 1, k / 8.0)};
        }
        System.arraycopy(others, 0, points, 9, others.length);
        return points;
    }

    private static double onCurve(double[][] p, int axis, double t) {
        double s = 1 - t;
        return s * s * s * p[0][axis] + 3 * s * s * t * p[1][axis] + 3 * s * t * t * p[2][axis] + t * t * t * p[3][axis];
    }

    int size() {
        int size = 0;
        for (boolean[] column : inside) {
            for (boolean point : column) {
                size += point ? 1 : 0;
            }
        }
        return size;
    }

    /** The area must be black and all else white. */
    void due(GlyphCompiler x, String text) {
        Check.due("the picture after " + text, Look.picture(x), Look.picture(inside));
        Check.due("count(1) after " + text, x.count(1), size());
    }
}
