/** Texts of expressions whose factors and numbers are powers of 2, for the tests. */
final class Powers {
    /** 1 in 65536ths. */
    static final long ONE = 65536;

    private Powers() {
    }

    /** A term: the power of 2, from -20 to 26, times a primary such as "x0" or "( 3 )". */
    static String times(int power, String primary) {
        if (power > 9) {
            return "512 ( " + times(power - 9, primary) + " )";
        }
        if (power >= 0) {
            return (1 << power) + " " + primary;
        }
        return power < -4 ? "1/16 ( " + times(power + 4, primary) + " )" : (16 >> -power) + "/16 " + primary;
    }

    /** The power of 2 itself. */
    static String of(int power) {
        return times(power, "( 1 )");
    }
}
