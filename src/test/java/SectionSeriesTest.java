/** Section "Series" of the description: numbers of series, degrees, sizes of coefficients, and trimming. */
public final class SectionSeriesTest {
    private static final int ONE = Checks.ONE;
    private static final int MOST = Checks.MOST;

    public static void main(String[] args) {
        eightSeriesFrom0To7();
        degrees0To24();
        initiallyDegree0AndCoefficient0();
        coefficientsFromMinus2To28To2To28();
        trimmedBySetCoefficient();
        trimmedByCopy();
        trimmedByAdd();
        trimmedByMultiply();
        trimmedByDifferentiate();
        trimmedByAntidifferentiate();
        trimmedByCompose();
        trimmedByDivide();
        trimmedByCutAndBasis();
        trimmedByInterpolate();
        degreeAbove24IsNotPossible();
        degreeCountsAfterTrimming();
        largerCoefficientInSum();
        largerCoefficientInProduct();
        largerCoefficientInDerivative();
        largerCoefficientInAntiderivative();
        largerCoefficientInComposition();
        largerCoefficientInQuotient();
        largerCoefficientInInterpolation();
        Checks.finish("SectionSeriesTest");
    }

    private static CosineSeries withDegree24(int series) {
        CosineSeries x = new CosineSeries();
        Checks.sparse(x, series, 24, 7, 5, 3, 0, 1);
        return x;
    }

    private static void eightSeriesFrom0To7() {
        Checks.about("Series, \"8 series, numbered from 0 to 7\"");
        CosineSeries x = new CosineSeries();
        for (int i = 0; i <= 7; i++) {
            Checks.due("setCoefficient of " + i, x.setCoefficient(i, i, 100 + i), i);
        }
        for (int i = 0; i <= 7; i++) {
            Checks.due("degree of " + i, x.degree(i), i);
            Checks.due("bound of " + i, x.bound(i), 100 + i);
        }
        Checks.due("series -1", x.degree(-1), Checks.INVALID);
        Checks.due("series 8", x.degree(8), Checks.INVALID);
    }

    private static void degrees0To24() {
        Checks.about("Series, \"n is its degree, 0 to 24\"");
        CosineSeries x = new CosineSeries();
        Checks.due("degree 0", x.setCoefficient(0, 0, 5), 0);
        Checks.due("degree 24", x.setCoefficient(0, 24, 5), 24);
        Checks.due("degree 24 again", x.degree(0), 24);
        Checks.due("c(24)", x.coefficient(0, 24), 5);
        Checks.unchanged("degree 25", x, Checks.INVALID, y -> y.setCoefficient(0, 25, 5));
    }

    private static void initiallyDegree0AndCoefficient0() {
        Checks.about("Series, \"Initially each series has the degree 0 and c(0) = 0\"");
        CosineSeries x = new CosineSeries();
        for (int i = 0; i <= 7; i++) {
            Checks.coefficients("series " + i, x, i, 0);
        }
    }

    private static void coefficientsFromMinus2To28To2To28() {
        Checks.about("Series, \"The absolute value of a coefficient is at most 2^28\"");
        for (int k = 0; k <= 24; k += 12) {
            int at = k;
            CosineSeries x = new CosineSeries();
            Checks.due("2^28 at " + k, x.setCoefficient(1, k, MOST), k);
            Checks.due("2^28 is kept at " + k, x.coefficient(1, k), MOST);
            Checks.unchanged("2^28 + 1 at " + k, x, Checks.INVALID, y -> y.setCoefficient(1, at, MOST + 1));
            x = new CosineSeries();
            Checks.due("-2^28 at " + k, x.setCoefficient(1, k, -MOST), k);
            Checks.due("-2^28 is kept at " + k, x.coefficient(1, k), -MOST);
            Checks.unchanged("-2^28 - 1 at " + k, x, Checks.INVALID, y -> y.setCoefficient(1, at, -MOST - 1));
        }
    }

    // ---- trimming

    private static void trimmed(String by) {
        Checks.about("Series, \"Every method that makes a series trims it\", down to degree 0: " + by);
    }

    private static void trimmedBySetCoefficient() {
        trimmed("setCoefficient");
        CosineSeries x = Checks.with(3, 0, 0, 0, 5);
        Checks.due("down to c(0)", x.setCoefficient(0, 4, 0), 0);
        Checks.coefficients("down to c(0)", x, 0, 3);
        Checks.fill(x, 0, 3, 0, -7, 0, 5);
        Checks.due("down to c(2)", x.setCoefficient(0, 4, 0), 2);
        Checks.coefficients("down to c(2)", x, 0, 3, 0, -7);
        x.setCoefficient(1, 24, 1);
        Checks.due("down to a c(0) that is 0", x.setCoefficient(1, 24, 0), 0);
        Checks.coefficients("down to a c(0) that is 0", x, 1, 0);
        Checks.due("a 0 above the degree", x.setCoefficient(0, 24, 0), 2);
        Checks.due("c(0) = 0 of degree 0", x.setCoefficient(1, 0, 0), 0);
    }

    private static void trimmedByCopy() {
        trimmed("copy");
        CosineSeries x = withDegree24(1);
        Checks.due("degree 0 over degree 24", x.copy(0, 1), 0);
        Checks.coefficients("degree 0 over degree 24", x, 1, 0);
        Checks.due("a coefficient above", x.setCoefficient(1, 6, 1), 6);
        Checks.coefficients("nothing is left below", x, 1, 0, 0, 0, 0, 0, 0, 1);
    }

    private static void trimmedByAdd() {
        trimmed("add");
        CosineSeries x = withDegree24(2);
        Checks.fill(x, 0, 7, 1, 2, 3);
        Checks.fill(x, 1, 2, 1, 2, 3);
        Checks.due("all but c(0) cancel", x.add(0, 1, 1, -1, 2), 0);
        Checks.coefficients("all but c(0) cancel", x, 2, 5);
        Checks.due("all cancel", x.add(0, 5, 0, -5, 3), 0);
        Checks.coefficients("all cancel", x, 3, 0);
        Checks.due("factors 0", x.add(0, 0, 1, 0, 0), 0);
        Checks.coefficients("factors 0", x, 0, 0);
        Checks.fill(x, 0, 7, 4, 2, 3);
        Checks.due("the last two cancel", x.add(0, 1, 1, -1, 2), 1);
        Checks.coefficients("the last two cancel", x, 2, 5, 3);
    }

    private static void trimmedByMultiply() {
        trimmed("multiply");
        CosineSeries x = withDegree24(2);
        Checks.fill(x, 0, 0, 0, 0, 1);
        Checks.fill(x, 1, 0, 0, 1);
        Checks.due("all is rounded to 0", x.multiply(0, 1, 2), 0);
        Checks.coefficients("all is rounded to 0", x, 2, 0);
        Checks.fill(x, 0, ONE, 1);
        Checks.due("the last is rounded to 0", x.multiply(0, 0, 0), 1);
        Checks.coefficients("the last is rounded to 0", x, 0, ONE, 2);
        Checks.due("by 0", x.multiply(0, 7, 0), 0);
        Checks.coefficients("by 0", x, 0, 0);
    }

    private static void trimmedByDifferentiate() {
        trimmed("differentiate");
        CosineSeries x = withDegree24(2);
        Checks.fill(x, 0, 5, 7);
        Checks.due("of degree 1", x.differentiate(0, 2), 0);
        Checks.coefficients("of degree 1", x, 2, 7);
        Checks.fill(x, 0, 5);
        Checks.due("of degree 0", x.differentiate(0, 2), 0);
        Checks.coefficients("of degree 0", x, 2, 0);
    }

    private static void trimmedByAntidifferentiate() {
        trimmed("antidifferentiate");
        CosineSeries x = withDegree24(2);
        Checks.fill(x, 0, 0, 0, 0, 3);
        Checks.due("the last two are rounded to 0 and are 0", x.antidifferentiate(0, 2), 2);
        Checks.coefficients("the last two are rounded to 0 and are 0", x, 2, 1, 0, -1);
        Checks.fill(x, 0, 0, -2);
        Checks.due("all is rounded to 0", x.antidifferentiate(0, 2), 0);
        Checks.coefficients("all is rounded to 0", x, 2, 0);
        Checks.due("of 0", x.antidifferentiate(2, 2), 0);
    }

    private static void trimmedByCompose() {
        trimmed("compose");
        CosineSeries x = withDegree24(2);
        Checks.fill(x, 0, 9, 1);
        Checks.fill(x, 1, 0, 1);
        Checks.due("all but c(0) is rounded to 0", x.compose(0, 1, 2), 0);
        Checks.coefficients("all but c(0) is rounded to 0", x, 2, 9);
        Checks.fill(x, 0, 0, 1);
        Checks.due("all is rounded to 0", x.compose(0, 1, 2), 0);
        Checks.coefficients("all is rounded to 0", x, 2, 0);
    }

    private static void trimmedByDivide() {
        trimmed("divide");
        CosineSeries x = withDegree24(2);
        Checks.fill(x, 0, 5, 7);
        x.divide(0, 0, 2);
        Checks.coefficients("of degree 1", x, 2, 7);
        Checks.fill(x, 0, 5);
        x.divide(0, 0, 2);
        Checks.coefficients("of degree 0", x, 2, 0);
    }

    private static void trimmedByCutAndBasis() {
        trimmed("cut");
        CosineSeries x = Checks.with(5, 0, 0, 1);
        Checks.due("zeros before the last one", x.cut(0, 1), 3);
        Checks.coefficients("zeros before the last one", x, 0, 5);
        Checks.fill(x, 0, 0, 0, 0, 1);
        Checks.due("down to 0", x.cut(0, 1), 3);
        Checks.coefficients("down to 0", x, 0, 0);
        trimmed("basis");
        x = withDegree24(2);
        Checks.due("T(0) over degree 24", x.basis(0, 2), 0);
        Checks.coefficients("T(0) over degree 24", x, 2, ONE);
    }

    private static void trimmedByInterpolate() {
        trimmed("interpolate");
        CosineSeries x = withDegree24(2);
        Checks.due("values that are 0", x.interpolate(4, 2), 0);
        Checks.coefficients("values that are 0", x, 2, 0);
        for (int j = 0; j <= 16; j++) {
            x.setValue(j, 7);
        }
        Checks.due("values that are the same", x.interpolate(4, 2), 0);
        Checks.coefficients("values that are the same", x, 2, 7);
        x.setValue(0, -1);
        x.setValue(1, 0);
        Checks.due("-1/2 is rounded to 0", x.interpolate(0, 2), 0);
        Checks.coefficients("-1/2 is rounded to 0", x, 2, 0);
    }

    // ---- degrees above 24

    private static void degreeAbove24IsNotPossible() {
        Checks.about("Series, \"a degree above 24 after that, it is not possible\"");
        for (int a = 0; a <= 24; a += 6) {
            CosineSeries x = new CosineSeries();
            x.basis(a, 0);
            x.basis(24 - a, 1);
            Checks.due("T(" + a + ") by T(" + (24 - a) + ")", x.multiply(0, 1, 2), 24);
            Checks.due("its last", x.coefficient(2, 24), a % 24 == 0 ? ONE : ONE / 2);
            x.basis(25 - a, 1);
            if (a > 0) {
                Checks.unchanged("T(" + a + ") by T(" + (25 - a) + ")", x, Checks.IMPOSSIBLE, y -> y.multiply(0, 1, 2));
            }
        }
        CosineSeries x = new CosineSeries();
        x.basis(23, 0);
        Checks.due("antiderivative of T(23)", x.antidifferentiate(0, 1), 24);
        x.basis(24, 0);
        Checks.unchanged("antiderivative of T(24)", x, Checks.IMPOSSIBLE, y -> y.antidifferentiate(0, 1));
        int[][] outerAndInner = {{1, 24, 24}, {2, 12, 24}, {8, 3, 24}, {24, 1, 24}, {24, 0, 0}, {0, 24, 0}};
        for (int[] row : outerAndInner) {
            x = new CosineSeries();
            x.basis(row[0], 0);
            x.basis(row[1], 1);
            Checks.due("T(" + row[0] + ") of T(" + row[1] + ")", x.compose(0, 1, 2), row[2]);
        }
        int[][] tooHigh = {{2, 13}, {5, 5}, {13, 2}, {24, 24}, {2, 24}, {24, 2}};
        for (int[] row : tooHigh) {
            CosineSeries y = new CosineSeries();
            y.basis(row[0], 0);
            y.basis(row[1], 1);
            Checks.unchanged("T(" + row[0] + ") of T(" + row[1] + ")", y, Checks.IMPOSSIBLE, z -> z.compose(0, 1, 2));
        }
    }

    private static void degreeCountsAfterTrimming() {
        Checks.about("Series, \"a degree above 24 after that\", which is after trimming");
        CosineSeries x = new CosineSeries();
        Checks.sparse(x, 0, 11, ONE, 12, 1);
        Checks.sparse(x, 1, 13, 1);
        Checks.due("product, c(25) is rounded to 0", x.multiply(0, 1, 2), 24);
        Checks.due("product, c(24)", x.coefficient(2, 24), 1);
        Checks.due("product, c(2)", x.coefficient(2, 2), 1);
        Checks.sparse(x, 0, 24, 1);
        Checks.due("product, c(48) is rounded to 0", x.multiply(0, 0, 2), 0);
        Checks.coefficients("product, c(48) is rounded to 0", x, 2, 0);
        Checks.sparse(x, 3, 0, 5, 2, 1);
        Checks.due("composition, both products are rounded to 0", x.compose(3, 0, 2), 0);
        Checks.coefficients("composition, both products are rounded to 0", x, 2, 4);
        x = new CosineSeries();
        Checks.sparse(x, 0, 24, 1023);
        Checks.due("product, c(48) just below 1/2", x.multiply(0, 0, 2), 0);
        Checks.sparse(x, 0, 24, 1024);
        Checks.unchanged("product, c(48) of 1/2", x, Checks.IMPOSSIBLE, y -> y.multiply(0, 0, 2));
        x = new CosineSeries();
        Checks.sparse(x, 0, 24, 1024);
        Checks.sparse(x, 1, 24, -1024);
        Checks.due("product, c(48) of -1/2", x.multiply(0, 1, 2), 0);
        Checks.sparse(x, 1, 24, -1025);
        Checks.unchanged("product, c(48) just below -1/2", x, Checks.IMPOSSIBLE, y -> y.multiply(0, 1, 2));
    }

    // ---- coefficients that are too large

    private static void larger(String by) {
        Checks.about("Series, \"a coefficient that is larger than that in absolute value, it overflows\": " + by);
    }

    private static void largerCoefficientInSum() {
        larger("add");
        for (int k = 0; k <= 24; k += 8) {
            for (int sign = -1; sign <= 1; sign += 2) {
                int factor = sign;
                CosineSeries x = new CosineSeries();
                Checks.sparse(x, 0, k, MOST - 1, 24, MOST - 1);
                Checks.sparse(x, 1, k, 1);
                Checks.due("just not", x.add(0, factor, 1, factor, 2), 24);
                Checks.due("the coefficient " + k, x.coefficient(2, k), factor * MOST);
                Checks.unchanged("at " + k, x, Checks.OVERFLOW, y -> y.add(0, factor, 1, 2 * factor, 2));
            }
        }
        CosineSeries x = new CosineSeries();
        Checks.full(x, 0, MOST);
        Checks.due("1000 and -999 times 2^28", x.add(0, 1000, 0, -999, 1), 24);
        Checks.due("all of them", x.bound(1), 25L * MOST);
    }

    /** 3033169 * 92798976 / ONE is 2^28 + 1/2, and 15790321 * 17 is 2^28 + 1. */
    private static void largerCoefficientInProduct() {
        larger("multiply");
        CosineSeries x = Checks.with(MOST);
        Checks.fill(x, 1, ONE);
        Checks.due("2^28", x.multiply(0, 1, 2), 0);
        Checks.coefficients("2^28", x, 2, MOST);
        Checks.fill(x, 1, -ONE);
        x.multiply(0, 1, 2);
        Checks.coefficients("-2^28", x, 2, -MOST);
        x = Checks.with(15790321);
        Checks.fill(x, 1, 17 * ONE);
        Checks.unchanged("2^28 + 1", x, Checks.OVERFLOW, y -> y.multiply(0, 1, 2));
        x = Checks.with(-15790321);
        Checks.fill(x, 1, 17 * ONE);
        Checks.unchanged("-2^28 - 1", x, Checks.OVERFLOW, y -> y.multiply(0, 1, 2));
        x = Checks.with(3033169);
        Checks.fill(x, 1, 92798976);
        Checks.unchanged("2^28 + 1/2", x, Checks.OVERFLOW, y -> y.multiply(0, 1, 2));
        x = Checks.with(-3033169);
        Checks.fill(x, 1, 92798976);
        Checks.due("-2^28 - 1/2", x.multiply(0, 1, 2), 0);
        Checks.coefficients("-2^28 - 1/2", x, 2, -MOST);
        Checks.sparse(x, 0, 24, 15790321);
        Checks.fill(x, 1, 17 * ONE);
        Checks.unchanged("2^28 + 1 at 24", x, Checks.OVERFLOW, y -> y.multiply(0, 1, 2));
    }

    private static void largerCoefficientInDerivative() {
        larger("differentiate");
        for (int sign = -1; sign <= 1; sign += 2) {
            CosineSeries x = Checks.with(0, sign * (MOST - 3), 0, sign);
            Checks.due("d(0) = c(1) + 3 c(3)", x.differentiate(0, 1), 2);
            Checks.coefficients("d(0) = c(1) + 3 c(3)", x, 1, sign * MOST, 0, sign * 6);
            x.setCoefficient(0, 1, sign * (MOST - 2));
            Checks.unchanged("d(0) too large by 1", x, Checks.OVERFLOW, y -> y.differentiate(0, 1));
            x = Checks.with(0, 0, sign * (MOST / 4));
            Checks.due("d(1) = 4 c(2)", x.differentiate(0, 1), 1);
            Checks.coefficients("d(1) = 4 c(2)", x, 1, 0, sign * MOST);
            x.setCoefficient(0, 2, sign * (MOST / 4 + 1));
            Checks.unchanged("d(1) too large", x, Checks.OVERFLOW, y -> y.differentiate(0, 1));
            x = new CosineSeries();
            // 48 * 5592405 is 2^28 - 16.
            Checks.sparse(x, 0, 24, sign * 5592405);
            Checks.due("d(23) = 48 c(24)", x.differentiate(0, 1), 23);
            Checks.due("d(23)", x.coefficient(1, 23), sign * (MOST - 16));
            Checks.sparse(x, 0, 24, sign * 5592406);
            Checks.unchanged("d(23) too large", x, Checks.OVERFLOW, y -> y.differentiate(0, 1));
        }
    }

    private static void largerCoefficientInAntiderivative() {
        larger("antidifferentiate");
        CosineSeries x = Checks.with(MOST, 0, 1);
        Checks.due("C(1) = 2^28 - 1/2", x.antidifferentiate(0, 1), 1);
        Checks.coefficients("C(1) = 2^28 - 1/2", x, 1, MOST, MOST);
        x.setCoefficient(0, 2, -1);
        Checks.unchanged("C(1) = 2^28 + 1/2", x, Checks.OVERFLOW, y -> y.antidifferentiate(0, 1));
        x = Checks.with(-MOST, 0, 1);
        Checks.due("C(1) = -2^28 - 1/2", x.antidifferentiate(0, 1), 1);
        Checks.coefficients("C(1) = -2^28 - 1/2", x, 1, -MOST, -MOST);
        x.setCoefficient(0, 2, 2);
        Checks.unchanged("C(1) = -2^28 - 1", x, Checks.OVERFLOW, y -> y.antidifferentiate(0, 1));
        x = Checks.with(MOST, -2);
        Checks.due("C(0) = 2^28", x.antidifferentiate(0, 1), 1);
        Checks.coefficients("C(0) = 2^28", x, 1, MOST, MOST);
        x.setCoefficient(0, 1, -3);
        Checks.unchanged("C(0) alone = 2^28 + 1", x, Checks.OVERFLOW, y -> y.antidifferentiate(0, 1));
        x = Checks.with(-MOST, 1);
        Checks.due("C(0) = -2^28", x.antidifferentiate(0, 1), 1);
        x.setCoefficient(0, 1, 2);
        Checks.unchanged("C(0) alone = -2^28 - 1", x, Checks.OVERFLOW, y -> y.antidifferentiate(0, 1));
    }

    private static void largerCoefficientInComposition() {
        larger("compose");
        for (int sign = -1; sign <= 1; sign += 2) {
            CosineSeries x = Checks.with(sign * (MOST - 1), sign);
            Checks.fill(x, 1, ONE);
            Checks.due("the result just not", x.compose(0, 1, 2), 0);
            Checks.coefficients("the result just not", x, 2, sign * MOST);
            x.setCoefficient(0, 0, sign * MOST);
            Checks.unchanged("the result", x, Checks.OVERFLOW, y -> y.compose(0, 1, 2));
        }
    }

    private static void largerCoefficientInQuotient() {
        larger("divide");
        for (int sign = -1; sign <= 1; sign += 2) {
            CosineSeries x = Checks.with(0, 0, sign * (MOST / 2));
            Checks.due("q(1) = 2 c(2)", x.divide(0, 0, 1), -sign * (MOST / 2));
            Checks.coefficients("q(1) = 2 c(2)", x, 1, 0, sign * MOST);
            x.setCoefficient(0, 2, sign * (MOST / 2 + 1));
            Checks.unchanged("q(1) too large", x, Checks.OVERFLOW, y -> y.divide(0, 0, 1));
        }
        CosineSeries x = Checks.with(0, MOST, -1);
        x.divide(0, ONE / 4, 1);
        Checks.coefficients("q(0) = 2^28 - 1/2", x, 1, MOST, -2);
        x.setCoefficient(0, 2, 1);
        Checks.unchanged("q(0) = 2^28 + 1/2", x, Checks.OVERFLOW, y -> y.divide(0, ONE / 4, 1));
        x = Checks.with(0, -MOST, -1);
        x.divide(0, ONE / 4, 1);
        Checks.coefficients("q(0) = -2^28 - 1/2", x, 1, -MOST, -2);
        Checks.unchanged("q(0) = -2^28 - 1", x, Checks.OVERFLOW, y -> y.divide(0, ONE / 2, 1));
    }

    /** Values of at most 2^27 whose signs follow one cosine give the largest coefficients: below 4/3 of 2^27. */
    private static void largerCoefficientInInterpolation() {
        larger("interpolate, which never does");
        for (int power = 0; power <= 4; power++) {
            int n = 1 << power;
            for (int k = 0; k <= n; k++) {
                CosineSeries x = new CosineSeries();
                for (int j = 0; j <= n; j++) {
                    boolean isBelow0 = Math.cos(Math.PI * j * k / n) < -0.001;
                    x.setValue(j, isBelow0 ? -Checks.MOST_VALUE : Checks.MOST_VALUE);
                }
                long degree = x.interpolate(power, 0);
                Checks.that("N = " + n + ", c(" + k + ")", degree >= k && degree <= n, "answered " + degree);
                long c = x.coefficient(0, k);
                Checks.that("N = " + n + ", c(" + k + ")", c >= Checks.MOST_VALUE && c <= MOST, "is " + c);
            }
        }
    }
}
