/**
 * Section "Description": "v / n rounded" means the nearest integer, and of two equally near ones the greater one,
 * below 0 too. Each place of the document that rounds gets quotients in quarters, from -7/4 to 7/4.
 */
public final class SectionRoundingTest {
    private static final int ONE = Checks.ONE;
    private static final int LEAST_QUARTERS = -7;
    /** What -7/4, -6/4 and so on up to 7/4 are, rounded. */
    private static final int[] ROUNDED = {-2, -1, -1, -1, -1, 0, 0, 0, 0, 1, 1, 1, 1, 2, 2};

    public static void main(String[] args) {
        Checks.about("Description, v / n rounded");
        for (int i = 0; i < ROUNDED.length; i++) {
            int quarters = LEAST_QUARTERS + i;
            inValue(quarters, ROUNDED[i]);
            inProduct(quarters, ROUNDED[i]);
            inAntiderivative(quarters, ROUNDED[i]);
            inInnerProduct(quarters, ROUNDED[i]);
            inComposition(quarters, ROUNDED[i]);
            inDivision(quarters, ROUNDED[i]);
            inInterpolation(quarters, ROUNDED[i]);
        }
        halfOfQ2InDivision();
        firstOfDerivative();
        thirdsAndFifteenthsInIntegral();
        sixthsInAntiderivative();
        slopeOfAnInterval();
        sumsAreExactBeforeTheyAreDivided();
        Checks.finish("SectionRoundingTest");
    }

    private static String quarters(String where, int quarters) {
        return where + ", " + quarters + "/4";
    }

    private static void inValue(int q, int rounded) {
        Checks.due(quarters("value, x * b / ONE", q), Checks.with(0, q).value(0, ONE / 4), rounded);
        // At ONE / 8 the c(2) = q gives t = c(1) + q/4 rounded; c(1) is such that t / 8 is just 1/2, and just below.
        CosineSeries x = Checks.with(q, 4 - rounded, q);
        Checks.due(quarters("value, 2 * x * b / ONE", q), x.value(0, ONE / 8), 1);
        x.setCoefficient(0, 1, 3 - rounded);
        Checks.due(quarters("value, 2 * x * b / ONE is not more", q), x.value(0, ONE / 8), 0);
    }

    private static void inProduct(int q, int rounded) {
        CosineSeries x = Checks.with(q);
        Checks.fill(x, 1, ONE / 4, 0, 0, ONE / 4);
        x.multiply(0, 1, 2);
        Checks.due(quarters("product, coefficient 0", q), x.coefficient(2, 0), rounded);
        Checks.due(quarters("product, coefficient 3", q), x.coefficient(2, 3), rounded);
    }

    private static void inAntiderivative(int q, int rounded) {
        CosineSeries x = Checks.with(0, q);
        x.antidifferentiate(0, 1);
        Checks.due(quarters("antiderivative, C(2)", q), x.coefficient(1, 2), rounded);
        Checks.due(quarters("antiderivative, C(0)", q), x.coefficient(1, 0), -rounded);
        Checks.fill(x, 0, 0, 0, 0, q);
        x.antidifferentiate(0, 1);
        // C(2) = (0 - q) / 4, so the sign is turned before the rounding.
        Checks.due(quarters("antiderivative, C(2) of c(3)", -q), x.coefficient(1, 2), ROUNDED[-q - LEAST_QUARTERS]);
    }

    private static void inInnerProduct(int q, int rounded) {
        CosineSeries x = Checks.with(0, q);
        Checks.fill(x, 1, ONE / 8, ONE / 4);
        Checks.due(quarters("inner product", q), x.inner(0, 1), rounded);
        Checks.fill(x, 0, q);
        Checks.due(quarters("inner product of a(0) and b(0)", q), x.inner(0, 1), rounded);
    }

    private static void inComposition(int q, int rounded) {
        CosineSeries x = Checks.with(0, q);
        Checks.fill(x, 1, ONE / 4);
        x.compose(0, 1, 2);
        Checks.due(quarters("composition, the product of g and b", q), x.coefficient(2, 0), rounded);
        // With c(2) = q the doubled product is 2 * rounded, and c(1) makes t such that t / 4 is just 1/2.
        Checks.fill(x, 0, q, 2 - 2 * rounded, q);
        x.compose(0, 1, 2);
        Checks.due(quarters("composition, the product that is doubled", q), x.coefficient(2, 0), 1);
        x.setCoefficient(0, 1, 1 - 2 * rounded);
        x.compose(0, 1, 2);
        Checks.due(quarters("composition, the doubled product is not more", q), x.coefficient(2, 0), 0);
    }

    private static void inDivision(int q, int rounded) {
        CosineSeries x = Checks.with(0, 0, q);
        x.divide(0, ONE / 8, 1);
        Checks.due(quarters("division, r * q(1) / ONE", q), x.coefficient(1, 0), rounded);
        Checks.fill(x, 0, 0, 0, 0, q);
        x.divide(0, ONE / 16, 1);
        Checks.due(quarters("division, 2 * r * q(2) / ONE", q), x.coefficient(1, 1), rounded);
        Checks.due(quarters("division, q(2)", q), x.coefficient(1, 2), 2 * q);
    }

    private static void inInterpolation(int q, int rounded) {
        CosineSeries x = new CosineSeries();
        x.setValue(0, q);
        x.interpolate(1, 0);
        Checks.due(quarters("interpolation, c(0)", q), x.coefficient(0, 0), rounded);
        Checks.due(quarters("interpolation, c(2)", q), x.coefficient(0, 2), rounded);
        x.setValue(0, 0);
        x.setValue(2, q);
        x.interpolate(2, 0);
        Checks.due(quarters("interpolation, c(0) with u(2) = 2", q), x.coefficient(0, 0), rounded);
        Checks.due(quarters("interpolation, c(4) with u(2) = 2", q), x.coefficient(0, 4), rounded);
    }

    /** With c(4) = h and r = ONE / 4: q(3) = 2 h, q(2) = h, q(1) = h/2 rounded - 2 h + 2 c(2), and c(2) = h. */
    private static void halfOfQ2InDivision() {
        int[][] rows = {{-3, 1}, {-1, 0}, {1, -1}, {3, -1}, {5, -2}};
        for (int[] row : rows) {
            int h = row[0];
            CosineSeries x = Checks.with(0, 0, h, 0, h);
            x.divide(0, ONE / 4, 1);
            Checks.due("division, q(2) of " + h, x.coefficient(1, 2), h);
            Checks.due("division, q(0) with q(2) / 2 of " + h, x.coefficient(1, 0), row[1]);
        }
    }

    /** All of d(0) is even, so its half is exact, and only a sign could be rounded wrongly. */
    private static void firstOfDerivative() {
        CosineSeries x = Checks.with(0, -1);
        x.differentiate(0, 1);
        Checks.due("derivative, d(0) / 2", x.coefficient(1, 0), -1);
        Checks.fill(x, 0, 0, 2, 0, -1);
        x.differentiate(0, 1);
        Checks.due("derivative, d(0) / 2 with c(3)", x.coefficient(1, 0), 2 - 3);
    }

    /** The divisor 1 - k * k is below 0 and odd, so no two integers are equally near. */
    private static void thirdsAndFifteenthsInIntegral() {
        int[] thirds = {3, 2, 1, 1, 0, -1, -1, -2, -3};
        for (int c = -4; c <= 4; c++) {
            Checks.due("integral, 2 * " + c + " / -3", Checks.with(0, 0, c).integral(0), thirds[c + 4]);
        }
        int[][] fifteenths = {{3, 0}, {4, -1}, {11, -1}, {12, -2}, {-3, 0}, {-4, 1}, {-11, 1}, {-12, 2}};
        for (int[] row : fifteenths) {
            Checks.due("integral, 2 * " + row[0] + " / -15", Checks.with(0, 0, 0, 0, row[0]).integral(0), row[1]);
        }
    }

    private static void sixthsInAntiderivative() {
        int[][] rows = {{2, 0}, {3, 1}, {8, 1}, {9, 2}, {-2, 0}, {-3, 0}, {-4, -1}, {-9, -1}, {-10, -2}};
        for (int[] row : rows) {
            CosineSeries x = Checks.with(0, 0, row[0]);
            x.antidifferentiate(0, 1);
            Checks.due("antiderivative, C(3) = " + row[0] + "/6", x.coefficient(1, 3), row[1]);
        }
    }

    /**
     * The series -17 + T(1) has D = 1. From -ONE to 0 its D * h / ONE is 1/2, which is 1, and |value at m| = 17 is
     * not greater than 1 + 16: that interval is divided, and both its halves (18 and 17 against 16) are free. From 0
     * to ONE the half beyond ONE / 2 has a value of -16 or -15 and is full of roots: 104 intervals give the first 24.
     */
    private static void slopeOfAnInterval() {
        CosineSeries x = Checks.with(-17, 1);
        Checks.due("bound on an interval, D * h / ONE = 1/2", x.intervals(0), 1 + 3 + 2 + 104);
        Checks.due("bound on an interval, the first root", x.root(0, 0), ONE / 2 + 8);
    }

    private static void sumsAreExactBeforeTheyAreDivided() {
        Checks.about("Description, all sums and products that are divided are exact");
        CosineSeries x = Checks.with(0, 1, 1);
        Checks.fill(x, 1, 0, ONE / 2, ONE / 2);
        x.multiply(0, 1, 2);
        Checks.due("product, twice 1/4", x.coefficient(2, 0), 1);
        Checks.fill(x, 1, 0, ONE / 4, ONE / 4);
        Checks.due("inner product, twice 1/4", x.inner(0, 1), 1);
        x.setValue(0, 1);
        x.setValue(2, 1);
        x.interpolate(1, 3);
        Checks.due("interpolation, twice 1/4", x.coefficient(3, 0), 1);
        greatNumbersCancel();
    }

    /** 2 * 2^56 - 2^56 - 2^28 * (2^28 - 1) - (2^19 * 511) leaves 2^19, a half; one less is below it. */
    private static void greatNumbersCancel() {
        int most = Checks.MOST;
        CosineSeries x = Checks.with(most, -most, -most, 524288, 0, 1);
        Checks.fill(x, 1, most, most, most - 1, -511);
        Checks.due("inner product, a half that is left of 2^57", x.inner(0, 1), 1);
        x.setCoefficient(1, 5, -1);
        Checks.due("inner product, just less than a half", x.inner(0, 1), 0);
    }
}
