/** Section "Values" of the description, and the calls that rest on it: x at its ends, and series of each degree. */
public final class SectionValuesTest {
    private static final int ONE = Checks.ONE;
    private static final int MOST = Checks.MOST;

    public static void main(String[] args) {
        atOneAndMinusOne();
        beyondOneAndMinusOne();
        nextToTheEndsAndToZero();
        ofDegree0();
        ofDegree1();
        ofDegree24();
        ofTheGreatestCoefficients();
        Checks.finish("SectionValuesTest");
    }

    /** T(k) is 1 at 1, and 1 or -1 at -1, so nothing is rounded there. */
    private static void atOneAndMinusOne() {
        Checks.about("Values, \"at x (from -ONE to ONE)\": at ONE and -ONE");
        CosineSeries x = new CosineSeries();
        long sum = 0;
        long alternating = 0;
        for (int k = 0; k <= 24; k++) {
            int c = (k * 7919 % 101 - 50) * 1234567;
            x.setCoefficient(0, k, c);
            sum += c;
            alternating += k % 2 == 0 ? c : -c;
            Checks.due("at ONE, degree " + k, x.value(0, ONE), sum);
            Checks.due("at -ONE, degree " + k, x.value(0, -ONE), alternating);
        }
    }

    private static void beyondOneAndMinusOne() {
        Checks.about("Values, \"at x (from -ONE to ONE)\": beyond them");
        for (int beyond : new int[] {ONE + 1, -ONE - 1, 2 * ONE, Integer.MAX_VALUE, Integer.MIN_VALUE}) {
            Checks.unchanged("at " + beyond, Checks.with(1, 2, 3), Checks.INVALID, y -> y.value(0, beyond));
            Checks.unchanged("of 0 at " + beyond, Checks.with(0), Checks.INVALID, y -> y.value(0, beyond));
        }
    }

    private static void nextToTheEndsAndToZero() {
        Checks.about("Values, \"at x (from -ONE to ONE)\": within");
        CosineSeries x = Checks.with(0, ONE);
        for (int within : new int[] {ONE - 1, 1, 0, -1, -ONE + 1}) {
            Checks.due("x at " + within, x.value(0, within), within);
        }
        Checks.fill(x, 0, 1, 2, 3, 4, 5);
        Checks.due("at 0 only even coefficients count", x.value(0, 0), 1 - 3 + 5);
    }

    private static void ofDegree0() {
        Checks.about("Values, a series of degree 0");
        for (int c : new int[] {0, 1, -1, 77, MOST, -MOST}) {
            CosineSeries x = Checks.with(c);
            for (int at : new int[] {-ONE, -ONE + 1, -1, 0, 1, 12345, ONE - 1, ONE}) {
                Checks.due(c + " at " + at, x.value(0, at), c);
            }
        }
    }

    private static void ofDegree1() {
        Checks.about("Values, a series of degree 1: \"c(0) + (x * b / ONE rounded) - d\", where d is 0");
        CosineSeries x = Checks.with(10, 3);
        Checks.due("at 1/2, 3/2 is rounded", x.value(0, ONE / 2), 12);
        Checks.due("at -1/2, -3/2 is rounded", x.value(0, -ONE / 2), 9);
        Checks.due("at 1/6, just below 1/2", x.value(0, ONE / 6), 10);
        Checks.due("at 1/6, just above 1/2", x.value(0, ONE / 6 + 1), 11);
        Checks.fill(x, 0, -MOST, MOST);
        Checks.due("of 2^28 at 1", x.value(0, 1), -MOST + 256);
        Checks.due("of 2^28 at -ONE", x.value(0, -ONE), -2L * MOST);
    }

    /** cos(24 a) for a = pi/3 and a = pi/2 is 1, and 1/2 and 0 need no rounding. */
    private static void ofDegree24() {
        Checks.about("Values, a series of degree 24: \"For k from n down to 1\"");
        CosineSeries x = new CosineSeries();
        x.basis(24, 0);
        Checks.due("T(24) at 1/2", x.value(0, ONE / 2), ONE);
        Checks.due("T(24) at -1/2", x.value(0, -ONE / 2), ONE);
        Checks.due("T(24) at 0", x.value(0, 0), ONE);
        x.basis(23, 0);
        Checks.due("T(23) at 1/2", x.value(0, ONE / 2), ONE / 2);
        Checks.due("T(23) at -1/2", x.value(0, -ONE / 2), -ONE / 2);
        Checks.due("T(23) at 0", x.value(0, 0), 0);
    }

    private static void ofTheGreatestCoefficients() {
        Checks.about("Values, coefficients of 2^28 each: no sum wraps around");
        CosineSeries x = new CosineSeries();
        Checks.full(x, 0, MOST);
        Checks.due("at ONE", x.value(0, ONE), 25L * MOST);
        Checks.due("at -ONE", x.value(0, -ONE), MOST);
        Checks.full(x, 1, -MOST);
        Checks.due("below 0 at ONE", x.value(1, ONE), -25L * MOST);
        Checks.due("below 0 at -ONE", x.value(1, -ONE), -MOST);
        Checks.due("at 0", x.value(0, 0), MOST);
        // 1 + 1/2 - 1/2 - 1 - 1/2 + 1/2 comes four times, and then T(24) = 1.
        Checks.due("at 1/2", x.value(0, ONE / 2), MOST);
    }
}
