/** Section "Extreme points" of the description: N = 1 and N = 16, j = 0 and j = N, and the cosines that repeat. */
public final class SectionExtremePointsTest {
    private static final int ONE = Checks.ONE;
    private static final int MOST_VALUE = Checks.MOST_VALUE;

    /** The cosines of pi * m / 16 for m from 0 to 32, each written out, so that none is found by a rule. */
    private static final int[] COSINES = {
        1048576, 1028428, 968758, 871859, 741455, 582558, 401273, 204567,
        0, -204567, -401273, -582558, -741455, -871859, -968758, -1028428,
        -1048576, -1028428, -968758, -871859, -741455, -582558, -401273, -204567,
        0, 204567, 401273, 582558, 741455, 871859, 968758, 1028428
    };

    public static void main(String[] args) {
        pointsOfEachN();
        pointsFrom0ToN();
        cosinesRepeatAfter32();
        weightsAtTheEnds();
        interpolationWithN1();
        interpolationWithN2();
        valuesAboveNDoNotCount();
        sampleSetsOnlyV0ToVN();
        sampleUpTo2To27();
        samplesTooLargeAnywhere();
        misfitAtV0ToVN();
        Checks.finish("SectionExtremePointsTest");
    }

    private static void pointsOfEachN() {
        Checks.about("Extreme points, \"x(j) is the cosine for m = 16 * j / N\"");
        CosineSeries x = new CosineSeries();
        for (int power = 0; power <= 4; power++) {
            int n = 1 << power;
            for (int j = 0; j <= n; j++) {
                Checks.due("N = " + n + ", j = " + j, x.extremePoint(power, j), COSINES[16 * j / n]);
            }
        }
        Checks.due("N = 1, j = 1 is -ONE", x.extremePoint(0, 1), -ONE);
        Checks.due("N = 2, j = 1 is 0", x.extremePoint(1, 1), 0);
        Checks.due("N = 16, j = 8 is 0", x.extremePoint(4, 8), 0);
        Checks.due("N = 16, j = 16 is -ONE", x.extremePoint(4, 16), -ONE);
    }

    private static void pointsFrom0ToN() {
        Checks.about("Promise 24, \"j: 0 to N\"");
        for (int power = 0; power <= 4; power++) {
            int p = power;
            int n = 1 << power;
            for (int j : new int[] {-1, n + 1, 17, Integer.MAX_VALUE, Integer.MIN_VALUE}) {
                Checks.unchanged("N = " + n + ", j = " + j, Checks.with(3), Checks.INVALID, y -> y.extremePoint(p, j));
            }
        }
        CosineSeries x = new CosineSeries();
        Checks.due("N of -1", x.extremePoint(-1, 0), Checks.INVALID);
        Checks.due("N of 32", x.extremePoint(5, 0), Checks.INVALID);
        Checks.due("N of 2 to the 32nd", x.extremePoint(32, 0), Checks.INVALID);
    }

    /** A single v(j) = 2^27 leaves the one cosine of pi * j * k / 16, with m up to 256, times w * u * 4. */
    private static void cosinesRepeatAfter32() {
        Checks.about("Extreme points, \"they repeat after m = 32, and that for 32 - m is that for m\"");
        for (int power = 0; power <= 4; power++) {
            int n = 1 << power;
            for (int j = 0; j <= n; j++) {
                CosineSeries x = new CosineSeries();
                x.setValue(j, MOST_VALUE);
                x.interpolate(power, 0);
                for (int k = 0; k <= n; k++) {
                    long u = j == 0 || j == n ? 1 : 2;
                    long w = k == 0 || k == n ? 1 : 2;
                    long due = w * u * 64 / n * COSINES[16 / n * j * k % 32];
                    Checks.due("N = " + n + ", v(" + j + ") alone, c(" + k + ")", x.coefficient(0, k), due);
                }
                Checks.due("N = " + n + ", v(" + j + ") alone, above N", x.coefficient(0, n + 1), 0);
            }
        }
    }

    private static void weightsAtTheEnds() {
        Checks.about("Extreme points, \"w is 2 for k from 1 to N - 1 and otherwise 1; u(j) is 1 for j = 0 and j = N\"");
        CosineSeries x = new CosineSeries();
        x.setValue(0, 32);
        Checks.due("v(0) alone", x.interpolate(4, 0), 16);
        x.setValue(0, 0);
        x.setValue(16, 32);
        Checks.due("v(16) alone", x.interpolate(4, 1), 16);
        x.setValue(16, 0);
        x.setValue(8, 32);
        Checks.due("v(8) alone", x.interpolate(4, 2), 16);
        int[] ofMiddle = {1, 0, -1, 0};
        for (int k = 0; k <= 16; k++) {
            int w = k == 0 || k == 16 ? 1 : 2;
            Checks.due("v(0) alone, c(" + k + ")", x.coefficient(0, k), w);
            Checks.due("v(16) alone, c(" + k + ")", x.coefficient(1, k), k % 2 == 0 ? w : -w);
            Checks.due("v(8) alone, c(" + k + ")", x.coefficient(2, k), 2 * w * ofMiddle[k % 4]);
        }
    }

    private static void interpolationWithN1() {
        Checks.about("Extreme points, N = 1: c(0) and c(1) both have w = 1, v(0) and v(1) both u = 1");
        CosineSeries x = new CosineSeries();
        x.setValue(0, 10);
        x.setValue(1, 4);
        Checks.due("degree", x.interpolate(0, 0), 1);
        Checks.coefficients("(10 + 4) / 2 and (10 - 4) / 2", x, 0, 7, 3);
        x.setValue(0, MOST_VALUE);
        x.setValue(1, -MOST_VALUE);
        x.interpolate(0, 0);
        Checks.coefficients("2^27 and -2^27", x, 0, 0, MOST_VALUE);
        x.setValue(1, MOST_VALUE);
        Checks.due("degree of 2^27 and 2^27", x.interpolate(0, 0), 0);
        Checks.coefficients("2^27 and 2^27", x, 0, MOST_VALUE);
    }

    private static void interpolationWithN2() {
        Checks.about("Extreme points, N = 2: only k = 1 has w = 2, only v(1) has u = 2");
        CosineSeries x = new CosineSeries();
        x.setValue(0, 20);
        x.setValue(1, 6);
        x.setValue(2, 8);
        Checks.due("degree", x.interpolate(1, 0), 2);
        Checks.coefficients("parabola", x, 0, (20 + 12 + 8) / 4, (20 - 8) / 2, (20 - 12 + 8) / 4);
        for (int j = 0; j < 3; j++) {
            Checks.due("it goes through v(" + j + ")", x.value(0, ONE - j * ONE), j == 0 ? 20 : j == 1 ? 6 : 8);
        }
    }

    private static void valuesAboveNDoNotCount() {
        Checks.about("Promise 21, \"the series through the values v(0) to v(N)\"");
        for (int power = 0; power <= 4; power++) {
            int n = 1 << power;
            CosineSeries x = new CosineSeries();
            for (int j = 0; j <= 16; j++) {
                x.setValue(j, j <= n ? 9 : MOST_VALUE - j);
            }
            Checks.due("N = " + n, x.interpolate(power, 0), 0);
            Checks.coefficients("N = " + n, x, 0, 9);
        }
    }

    private static void sampleSetsOnlyV0ToVN() {
        Checks.about("Promise 22, \"Sets the values v(0) to v(N)\"");
        for (int power = 0; power <= 4; power++) {
            int n = 1 << power;
            CosineSeries x = Checks.with(5, ONE);
            for (int j = 0; j <= 16; j++) {
                x.setValue(j, 1000 + j);
            }
            Checks.due("N = " + n, x.sample(0, power), n + 1);
            for (int j = 0; j <= 16; j++) {
                long due = j <= n ? 5 + COSINES[16 / n * j % 32] : 1000 + j;
                Checks.due("N = " + n + ", v(" + j + ")", x.setValue(j, 0), due);
            }
        }
    }

    private static void sampleUpTo2To27() {
        Checks.about("Promise 22, \"OVERFLOW if the absolute value of some of them is greater than 2^27\"");
        for (int power = 0; power <= 4; power++) {
            int p = power;
            for (int sign = -1; sign <= 1; sign += 2) {
                CosineSeries x = Checks.with(sign * MOST_VALUE);
                Checks.due("2^27", x.sample(0, power), (1 << power) + 1);
                Checks.due("2^27 is set", x.setValue(1 << power, 0), sign * MOST_VALUE);
                x = Checks.with(sign * (MOST_VALUE + 1));
                x.setValue(0, 77);
                x.setValue(1, -78);
                Checks.unchanged("2^27 + 1", x, Checks.OVERFLOW, y -> y.sample(0, p));
            }
        }
    }

    /** T(N) alternates at the points, so 2^27 + T(N) is too large at every other one, and x alone at one end. */
    private static void samplesTooLargeAnywhere() {
        Checks.about("Promise 22, \"of some of them\": the first, the last, or one in between alone");
        CosineSeries x = Checks.with(MOST_VALUE - ONE + 1, ONE);
        Checks.unchanged("the first alone", x, Checks.OVERFLOW, y -> y.sample(0, 4));
        x = Checks.with(MOST_VALUE - ONE + 1, -ONE);
        Checks.unchanged("the last alone", x, Checks.OVERFLOW, y -> y.sample(0, 4));
        x = Checks.with(MOST_VALUE, 0, -1);
        Checks.unchanged("the one in the middle", x, Checks.OVERFLOW, y -> y.sample(0, 1));
        x = Checks.with(-MOST_VALUE, 0, 1);
        Checks.unchanged("the one in the middle below 0", x, Checks.OVERFLOW, y -> y.sample(0, 1));
        x = Checks.with(MOST_VALUE, 0, -1);
        Checks.due("N = 1 does not see the middle", x.sample(0, 0), 2);
        x = Checks.with(MOST_VALUE - ONE, ONE);
        Checks.due("2^27 at the first one", x.sample(0, 4), 17);
        x = Checks.with(MOST_VALUE - ONE, -ONE);
        Checks.due("2^27 at the last one", x.sample(0, 4), 17);
    }

    private static void misfitAtV0ToVN() {
        Checks.about("Promise 23, \"the greatest absolute difference of a series and the values v(0) to v(N)\"");
        for (int power = 0; power <= 4; power++) {
            int n = 1 << power;
            for (int j = 0; j <= n; j++) {
                CosineSeries x = Checks.with(5, ONE);
                x.sample(0, 4);
                x.sample(0, power);
                Checks.due("none, N = " + n, x.misfit(0, power), 0);
                int sample = 5 + COSINES[16 / n * j % 32];
                x.setValue(j, sample - 3);
                Checks.due("3 below at " + j + " of " + n, x.misfit(0, power), 3);
                x.setValue(j, sample + 4);
                Checks.due("4 above at " + j + " of " + n, x.misfit(0, power), 4);
            }
        }
        CosineSeries x = new CosineSeries();
        x.setValue(2, MOST_VALUE);
        Checks.due("v(2) is above N = 1", x.misfit(0, 0), 0);
        Checks.due("v(2) is the last of N = 2", x.misfit(0, 1), MOST_VALUE);
        x.setValue(0, -MOST_VALUE);
        Checks.full(x, 0, Checks.MOST);
        Checks.due("25 * 2^28 and -2^27", x.misfit(0, 0), 25L * Checks.MOST + MOST_VALUE);
        Checks.full(x, 0, -Checks.MOST);
        x.setValue(0, MOST_VALUE);
        Checks.due("-25 * 2^28 and 2^27", x.misfit(0, 0), 25L * Checks.MOST + MOST_VALUE);
    }
}
