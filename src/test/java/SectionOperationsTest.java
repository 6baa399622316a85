/** Section "Operations" of the description: the edges of its sums, and of what its operations check. */
public final class SectionOperationsTest {
    private static final int ONE = Checks.ONE;
    private static final int MOST = Checks.MOST;

    public static void main(String[] args) {
        productPairsWithIndex0();
        productPairsWithoutIndex0();
        derivativeOfDegree0And1();
        derivativeOfDegree23And24();
        antiderivativeC0Twice();
        antiderivativeMissingCoefficients();
        antiderivativeC25();
        antiderivativeIs0AtMinusOne();
        integralOverEvenIndices();
        innerProductC0Twice();
        compositionOfDegree0And1();
        compositionChecksProducts();
        compositionChecksSums();
        compositionDoubledProduct();
        compositionFirstErrorCounts();
        compositionBothInOneProduct();
        divisionOfDegree0And1();
        divisionOfDegree2And3();
        divisionOfDegree24();
        cutAtTheTolerance();
        cutDownToDegree0();
        targetsThatAreSources();
        Checks.finish("SectionOperationsTest");
    }

    // ---- product

    private static void productPairsWithIndex0() {
        Checks.about("Operations, product: \"a pair with i or j equal to 0 counts in both if both conditions hold\"");
        CosineSeries x = Checks.with(ONE);
        Checks.fill(x, 1, 0, 0, 0, 8);
        x.multiply(0, 1, 2);
        Checks.coefficients("i = 0", x, 2, 0, 0, 0, 8);
        x.multiply(1, 0, 3);
        Checks.coefficients("j = 0", x, 3, 0, 0, 0, 8);
        Checks.fill(x, 0, 3 * ONE);
        Checks.fill(x, 1, 5);
        x.multiply(0, 1, 2);
        Checks.coefficients("i = j = 0", x, 2, 15);
        Checks.sparse(x, 1, 24, 6);
        x.multiply(0, 1, 2);
        Checks.due("i = 0 and j = 24: degree", x.degree(2), 24);
        Checks.due("i = 0 and j = 24: last", x.coefficient(2, 24), 18);
        Checks.due("i = 0 and j = 24: bound", x.bound(2), 18);
    }

    private static void productPairsWithoutIndex0() {
        Checks.about("Operations, product: other pairs count once for i + j and once for |i - j|");
        CosineSeries x = Checks.with(0, 2 * ONE);
        Checks.fill(x, 1, 0, 3);
        x.multiply(0, 1, 2);
        Checks.coefficients("i = j = 1", x, 2, 3, 0, 3);
        Checks.fill(x, 1, 0, 0, 3);
        x.multiply(0, 1, 2);
        Checks.coefficients("i = 1, j = 2", x, 2, 0, 3, 0, 3);
        x.multiply(1, 0, 2);
        Checks.coefficients("i = 2, j = 1", x, 2, 0, 3, 0, 3);
        Checks.sparse(x, 0, 12, 2 * ONE);
        Checks.sparse(x, 1, 12, -5);
        x.multiply(0, 1, 2);
        Checks.due("i = j = 12: c(0)", x.coefficient(2, 0), -5);
        Checks.due("i = j = 12: c(24)", x.coefficient(2, 24), -5);
        Checks.due("i = j = 12: bound", x.bound(2), 10);
    }

    // ---- derivative

    private static void derivativeOfDegree0And1() {
        Checks.about("Operations, derivative: \"d(n) and d(n + 1) are 0\", for n = 0 and n = 1");
        CosineSeries x = Checks.with(MOST);
        Checks.sparse(x, 1, 24, 5);
        Checks.due("n = 0", x.differentiate(0, 1), 0);
        Checks.coefficients("n = 0", x, 1, 0);
        Checks.fill(x, 0, 9, -MOST);
        Checks.due("n = 1", x.differentiate(0, 1), 0);
        Checks.coefficients("n = 1, 2 * c(1) is only halved", x, 1, -MOST);
    }

    private static void derivativeOfDegree23And24() {
        Checks.about("Operations, derivative: d(k - 1) \"for k from n down to 1\", for n = 23 and n = 24");
        CosineSeries x = new CosineSeries();
        Checks.sparse(x, 0, 23, 1);
        Checks.due("n = 23", x.differentiate(0, 1), 22);
        Checks.sparse(x, 2, 24, 1);
        Checks.due("n = 24", x.differentiate(2, 3), 23);
        for (int k = 0; k <= 24; k++) {
            Checks.due("n = 23, d(" + k + ")", x.coefficient(1, k), k == 0 ? 23 : k % 2 == 0 && k < 23 ? 46 : 0);
            Checks.due("n = 24, d(" + k + ")", x.coefficient(3, k), k % 2 == 1 ? 48 : 0);
        }
    }

    // ---- antiderivative

    private static void antiderivativeC0Twice() {
        Checks.about("Operations, antiderivative: \"where c(0) counts twice in C(1)\"");
        CosineSeries x = Checks.with(7);
        x.antidifferentiate(0, 1);
        Checks.coefficients("of 7", x, 1, 7, 7);
        Checks.fill(x, 0, 7, 0, 4);
        x.antidifferentiate(0, 1);
        Checks.due("C(1) of 7 + 4 T(2)", x.coefficient(1, 1), 5);
        Checks.fill(x, 0, 0, 40);
        x.antidifferentiate(0, 1);
        Checks.due("C(2) of 40 T(1) takes c(1) once", x.coefficient(1, 2), 10);
    }

    private static void antiderivativeMissingCoefficients() {
        Checks.about("Operations, antiderivative: \"coefficients that do not exist are 0\"");
        CosineSeries x = Checks.with(0, 0, 0, 240);
        Checks.sparse(x, 1, 24, 1);
        Checks.due("of degree 3", x.antidifferentiate(0, 1), 4);
        Checks.coefficients("of degree 3", x, 1, 30, 0, -60, 0, 30);
        Checks.sparse(x, 0, 23, 24);
        Checks.due("of degree 23", x.antidifferentiate(0, 1), 24);
        Checks.due("C(24), without c(25)", x.coefficient(1, 24), 1);
        Checks.due("C(22), with c(23)", x.coefficient(1, 22), -1);
    }

    private static void antiderivativeC25() {
        Checks.about("Operations, antiderivative: C(25) of a series of degree 24");
        CosineSeries x = new CosineSeries();
        Checks.sparse(x, 0, 24, 24);
        Checks.due("C(25) = 24/50", x.antidifferentiate(0, 1), 23);
        Checks.due("C(23) = -24/46", x.coefficient(1, 23), -1);
        Checks.due("C(0) = C(23)", x.coefficient(1, 0), -1);
        Checks.sparse(x, 0, 24, 25);
        Checks.unchanged("C(25) = 1/2", x, Checks.IMPOSSIBLE, y -> y.antidifferentiate(0, 1));
        x = new CosineSeries();
        Checks.sparse(x, 0, 24, -25);
        Checks.due("C(25) = -1/2", x.antidifferentiate(0, 1), 23);
        Checks.due("C(23) = 25/46", x.coefficient(1, 23), 1);
        Checks.sparse(x, 0, 24, -26);
        Checks.unchanged("C(25) = -26/50", x, Checks.IMPOSSIBLE, y -> y.antidifferentiate(0, 1));
        x = new CosineSeries();
        Checks.sparse(x, 0, 24, 1);
        Checks.due("C(25) and C(23) are 0", x.antidifferentiate(0, 1), 0);
        Checks.coefficients("C(25) and C(23) are 0", x, 1, 0);
        Checks.sparse(x, 0, 24, 24, 23, 24);
        Checks.due("C(24) is the last one then", x.antidifferentiate(0, 1), 24);
    }

    private static void antiderivativeIs0AtMinusOne() {
        Checks.about("Operations, antiderivative: \"C(0) is such that the value at -ONE becomes 0\"");
        CosineSeries x = new CosineSeries();
        for (int n = 0; n <= 23; n++) {
            x.setCoefficient(0, n, (n * 37 % 11 - 5) * 1000003 + 1000);
            Checks.due("degree " + n, x.antidifferentiate(0, 1), n + 1);
            Checks.due("value of degree " + n, x.value(1, -ONE), 0);
        }
    }

    // ---- integral and inner product

    private static void integralOverEvenIndices() {
        Checks.about("Operations, integral: \"over all even k, each rounded on its own\"");
        CosineSeries x = new CosineSeries();
        for (int k = 0; k <= 24; k++) {
            Checks.sparse(x, 0, k, (k * k - 1) * 3);
            Checks.due("of " + (k * k - 1) * 3 + " T(" + k + ")", x.integral(0), k % 2 == 0 ? -6 : 0);
        }
        Checks.fill(x, 0, 0, 0, 1, 0, 4);
        Checks.due("-2/3 and -8/15", x.integral(0), -2);
        Checks.fill(x, 0, 0, 0, 1, 0, 3);
        Checks.due("-2/3 and -6/15", x.integral(0), -1);
        Checks.sparse(x, 0, 24, 287);
        Checks.due("-574/575", x.integral(0), -1);
        Checks.sparse(x, 0, 24, 143);
        Checks.due("-286/575", x.integral(0), 0);
        Checks.sparse(x, 0, 24, -144);
        Checks.due("288/575", x.integral(0), 1);
        Checks.fill(x, 0, MOST);
        Checks.due("of 2^28", x.integral(0), 2L * MOST);
    }

    private static void innerProductC0Twice() {
        Checks.about("Operations, inner product: \"2 * a(0) * b(0) plus the sum of a(k) * b(k) for k from 1 on\"");
        CosineSeries x = new CosineSeries();
        for (int k = 0; k <= 24; k++) {
            Checks.sparse(x, 0, k, 3 * ONE);
            Checks.sparse(x, 1, k, 5);
            Checks.due("T(" + k + ") with itself", x.inner(0, 1), k == 0 ? 30 : 15);
        }
        Checks.sparse(x, 0, 23, 3 * ONE);
        Checks.due("T(23) with T(24)", x.inner(0, 1), 0);
        Checks.full(x, 2, MOST);
        Checks.full(x, 3, -MOST);
        Checks.due("the greatest", x.inner(2, 2), 26L << 36);
        Checks.due("the least", x.inner(2, 3), -26L << 36);
        Checks.due("with degree 0", x.inner(2, 7), 0);
    }

    // ---- composition

    private static void compositionOfDegree0And1() {
        Checks.about("Operations, composition: of a series f of degree 0 or 1");
        CosineSeries x = Checks.with(-MOST);
        Checks.full(x, 1, MOST);
        Checks.due("f of degree 0, g too large for any product", x.compose(0, 1, 2), 0);
        Checks.coefficients("f of degree 0", x, 2, -MOST);
        Checks.fill(x, 3, 5, ONE);
        Checks.sparse(x, 4, 24, 8, 0, 1);
        Checks.due("f of degree 1, g of degree 24", x.compose(3, 4, 2), 24);
        Checks.due("f of degree 1, c(0)", x.coefficient(2, 0), 6);
        Checks.due("f of degree 1, c(24)", x.coefficient(2, 24), 8);
        Checks.fill(x, 5, 1, 2, 3, 4);
        Checks.due("g = 0", x.compose(5, 7, 2), 0);
        Checks.coefficients("g = 0", x, 2, 1 - 3);
        Checks.sparse(x, 3, 24, ONE);
        Checks.fill(x, 4, 0, ONE);
        Checks.due("f of degree 24, g = x", x.compose(3, 4, 2), 24);
        Checks.due("f of degree 24, c(24)", x.coefficient(2, 24), ONE);
        Checks.due("f of degree 24, bound", x.bound(2), ONE);
    }

    private static void compositionChecksProducts() {
        Checks.about("Operations, composition: \"The product of g and b\" \"must be possible and not overflow\"");
        for (int sign = -1; sign <= 1; sign += 2) {
            // The product is 2^28 * 1 and then 2^28 + 256; the d = 0 of the last step hides nothing.
            CosineSeries x = Checks.with(0, sign * MOST);
            Checks.fill(x, 1, ONE);
            Checks.due("last product of 2^28", x.compose(0, 1, 2), 0);
            Checks.coefficients("last product of 2^28", x, 2, sign * MOST);
            Checks.fill(x, 1, ONE + 1);
            Checks.unchanged("last product too large", x, Checks.OVERFLOW, y -> y.compose(0, 1, 2));
            // Here c(0) would bring the sum back below 2^28.
            x = Checks.with(-sign * MOST, sign * MOST);
            Checks.fill(x, 1, ONE + 1);
            Checks.unchanged("last product too large, the sum not", x, Checks.OVERFLOW, y -> y.compose(0, 1, 2));
            // k = 2 gives t = 2^28, k = 1 the product, and c(1) - d would bring the sum back below 2^28.
            x = Checks.with(0, -sign * MOST, sign * (MOST - 2048), sign * 1024);
            Checks.fill(x, 1, ONE);
            Checks.due("a product of 2^28 within", x.compose(0, 1, 2), 0);
            Checks.coefficients("a product of 2^28 within", x, 2, -sign * 1024);
            Checks.fill(x, 1, ONE + 1);
            Checks.unchanged("a product too large within, t not", x, Checks.OVERFLOW, y -> y.compose(0, 1, 2));
        }
        CosineSeries x = new CosineSeries();
        Checks.sparse(x, 0, 2, ONE);
        Checks.sparse(x, 1, 13, ONE);
        Checks.unchanged("last product of degree 26", x, Checks.IMPOSSIBLE, y -> y.compose(0, 1, 2));
        x = new CosineSeries();
        Checks.sparse(x, 0, 3, ONE);
        Checks.sparse(x, 1, 13, ONE);
        Checks.unchanged("a product of degree 26 within", x, Checks.IMPOSSIBLE, y -> y.compose(0, 1, 2));
    }

    /** With g = 1/2 and c(2) = 2: k = 1 gives t = c(1) + 2, and the next product is half of that. */
    private static void compositionChecksSums() {
        Checks.about("Operations, composition: \"and then t (at the end, the result)\" must not overflow");
        for (int sign = -1; sign <= 1; sign += 2) {
            CosineSeries x = Checks.with(0, sign * (MOST - 2), sign * 2);
            Checks.fill(x, 1, ONE / 2);
            Checks.due("t just not too large", x.compose(0, 1, 2), 0);
            Checks.coefficients("t just not too large", x, 2, sign * (MOST / 2 - 2));
            x.setCoefficient(0, 1, sign * (MOST - 1));
            Checks.unchanged("t too large, the next product not", x, Checks.OVERFLOW, y -> y.compose(0, 1, 2));
            x = Checks.with(sign * (MOST - 2), sign, sign);
            Checks.fill(x, 1, ONE);
            Checks.due("the result just not too large", x.compose(0, 1, 2), 0);
            Checks.coefficients("the result just not too large", x, 2, sign * MOST);
            x.setCoefficient(0, 0, sign * (MOST - 1));
            Checks.unchanged("the result too large", x, Checks.OVERFLOW, y -> y.compose(0, 1, 2));
        }
        // With g = T(12), t is c(1) + 2 c(2) T(12): a coefficient that is not the first one is too large.
        CosineSeries x = Checks.with(0, 0, MOST / 2);
        x.basis(12, 1);
        Checks.due("t of 2^28 T(12)", x.compose(0, 1, 2), 24);
        Checks.due("2^27 T(24)", x.coefficient(2, 24), MOST / 2);
        x.setCoefficient(0, 2, MOST / 2 + 1);
        Checks.unchanged("t too large at 12", x, Checks.OVERFLOW, y -> y.compose(0, 1, 2));
    }

    /** k = 1 gives the product 3/4 * 2^28, twice which is 1.5 * 2^28, and t = -2^28 + 1.5 * 2^28. */
    private static void compositionDoubledProduct() {
        Checks.about("Operations, composition: \"the doubled product by itself is not checked\"");
        for (int sign = -1; sign <= 1; sign += 2) {
            CosineSeries x = Checks.with(0, -sign * MOST, sign * MOST);
            Checks.fill(x, 1, ONE / 4 * 3);
            Checks.due("doubled 3/4 of 2^28", x.compose(0, 1, 2), 0);
            Checks.coefficients("doubled 3/4 of 2^28", x, 2, sign * (MOST / 8 * 3 - MOST));
            Checks.fill(x, 1, ONE);
            Checks.due("doubled 2^28", x.compose(0, 1, 2), 0);
            Checks.coefficients("doubled 2^28", x, 2, 0);
        }
    }

    private static void compositionFirstErrorCounts() {
        Checks.about("Promise 11, Operations, composition: \"OVERFLOW (of both, that which happens first)\"");
        CosineSeries x = Checks.with(0, 0, MOST / 2 + 1);
        x.basis(13, 1);
        Checks.unchanged("t too large, the next product of degree 26", x, Checks.OVERFLOW, y -> y.compose(0, 1, 2));
        x = Checks.with(0, 0, MOST / 2);
        x.basis(13, 1);
        Checks.unchanged("t not too large, the next product of degree 26", x, Checks.IMPOSSIBLE,
            y -> y.compose(0, 1, 2));
        x = Checks.with(0, 0, MOST / 2 + 1);
        Checks.sparse(x, 1, 13, 2 * ONE);
        Checks.unchanged("a product too large, the next one of degree 26", x, Checks.OVERFLOW,
            y -> y.compose(0, 1, 2));
        x = Checks.with(MOST, MOST, 0, ONE);
        x.basis(13, 1);
        Checks.unchanged("a product of degree 26, sums too large later", x, Checks.IMPOSSIBLE,
            y -> y.compose(0, 1, 2));
    }

    /** The product of 64 + T(13) and 2 c(2) T(13) + 128 c(2) has the degree 26, and a coefficient above 2^28. */
    private static void compositionBothInOneProduct() {
        Checks.about("Errors, \"NOT_POSSIBLE rather than OVERFLOW\", in one product of a composition");
        CosineSeries x = Checks.with(0, 0, MOST / 256);
        Checks.sparse(x, 1, 0, 64 * ONE, 13, ONE);
        Checks.unchanged("both in the last product", x, Checks.IMPOSSIBLE, y -> y.compose(0, 1, 2));
        x = Checks.with(0, 0, MOST / 256);
        Checks.sparse(x, 1, 0, 64 * ONE, 12, ONE);
        Checks.unchanged("degree 24, and too large", x, Checks.OVERFLOW, y -> y.compose(0, 1, 2));
    }

    // ---- division

    private static void divisionOfDegree0And1() {
        Checks.about("Operations, division: \"if n is 0, it is 0\", and n = 1, where q(1) and q(2) are 0");
        for (int r : new int[] {-ONE, -1, 0, 1, ONE}) {
            CosineSeries x = Checks.with(-MOST);
            Checks.sparse(x, 1, 24, 5, 1, 4);
            Checks.due("n = 0, remainder by " + r, x.divide(0, r, 1), -MOST);
            Checks.coefficients("n = 0, quotient by " + r, x, 1, 0);
            Checks.due("n = 0 into itself, by " + r, x.divide(0, r, 0), -MOST);
            Checks.coefficients("n = 0 into itself, by " + r, x, 0, 0);
            Checks.fill(x, 0, 5, 4 * ONE);
            Checks.sparse(x, 1, 24, 5, 1, 4);
            Checks.due("n = 1, remainder by " + r, x.divide(0, r, 1), 5 + 4 * r);
            Checks.coefficients("n = 1, quotient by " + r, x, 1, 4 * ONE);
        }
    }

    private static void divisionOfDegree2And3() {
        Checks.about("Operations, division: \"(q(2) is 0 if it was not computed)\", for n = 2, and q(2) for n = 3");
        CosineSeries x = Checks.with(1, 10, 100);
        Checks.sparse(x, 1, 24, 5, 2, 4);
        Checks.due("n = 2, remainder by 1/2", x.divide(0, ONE / 2, 1), 1 + 5 - 50);
        Checks.coefficients("n = 2, q(2) = 0", x, 1, 10 + 100, 200);
        Checks.fill(x, 0, 1, 10, 100, 1000);
        Checks.due("n = 3, remainder by 0", x.divide(0, 0, 1), 1 - 100);
        Checks.coefficients("n = 3, q(2) = 2 c(3)", x, 1, 10 - 1000, 200, 2000);
        Checks.due("n = 3, remainder by -ONE", x.divide(0, -ONE, 1), 1 - 10 + 100 - 1000);
        Checks.coefficients("n = 3 by -ONE", x, 1, 10 - (200 - 4000) - 1000, 200 - 4000, 2000);
        Checks.fill(x, 0, 1, 10, 100, 1000, 10000);
        x.divide(0, 0, 1);
        Checks.coefficients("n = 4, q(1) = 2 c(2) - q(3)", x, 1, 10 - 1000, 200 - 20000, 2000, 20000);
    }

    /** T(24) divided by x - 1 has the coefficients 2 * (24 - k), of which the first one is halved. */
    private static void divisionOfDegree24() {
        Checks.about("Operations, division: \"for k from n down to 2\", of degree 24");
        CosineSeries x = new CosineSeries();
        Checks.sparse(x, 0, 24, 3);
        Checks.due("remainder by ONE", x.divide(0, ONE, 1), 3);
        Checks.due("degree", x.degree(1), 23);
        for (int k = 0; k <= 24; k++) {
            Checks.due("q(" + k + ")", x.coefficient(1, k), k == 0 ? 24 * 3 : 2 * (24 - k) * 3);
        }
        Checks.due("remainder by -ONE", x.divide(0, -ONE, 1), 3);
        for (int k = 0; k <= 24; k++) {
            int sign = k % 2 == 0 ? -1 : 1;
            Checks.due("q(" + k + ") by -ONE", x.coefficient(1, k), sign * (k == 0 ? 24 * 3 : 2 * (24 - k) * 3));
        }
    }

    // ---- cut

    private static void cutAtTheTolerance() {
        Checks.about("Operations, cut: \"of those cut away so far is at most t\"");
        int[][] rows = {{0, 0}, {1, 0}, {2, 1}, {3, 1}, {4, 1}, {5, 2}, {6, 2}, {9, 3}, {10, 3}};
        for (int[] row : rows) {
            CosineSeries x = Checks.with(100, -50, 4, -3, 2);
            Checks.due("degreeWith by " + row[0], x.degreeWith(0, row[0]), 4 - row[1]);
            Checks.due("cut by " + row[0], x.cut(0, row[0]), row[1]);
            Checks.due("degree after a cut by " + row[0], x.degree(0), 4 - row[1]);
        }
        CosineSeries x = new CosineSeries();
        Checks.full(x, 0, -MOST);
        Checks.due("3 * 2^28 is below 10^9", x.degreeWith(0, 1000000000), 21);
        Checks.due("3 * 2^28 exactly", x.cut(0, 3 * MOST), 3);
        Checks.due("2^28 - 1", x.cut(0, MOST - 1), 0);
        Checks.due("2^28", x.cut(0, MOST), 1);
        Checks.due("2^28 once more", x.degreeWith(0, MOST), 19);
    }

    private static void cutDownToDegree0() {
        Checks.about("Operations, cut: \"as long as the degree is above 0\"");
        CosineSeries x = Checks.with(1, 2, 3);
        Checks.due("a sum of 5", x.degreeWith(0, 4), 1);
        Checks.due("a sum of 5 exactly", x.degreeWith(0, 5), 0);
        Checks.due("c(0) would be within, too", x.degreeWith(0, 6), 0);
        Checks.due("cut", x.cut(0, 1000000000), 2);
        Checks.coefficients("c(0) stays", x, 0, 1);
        Checks.due("of degree 0", x.cut(0, 1000000000), 0);
        Checks.coefficients("c(0) still stays", x, 0, 1);
        Checks.due("of 0", x.cut(1, 0), 0);
        Checks.due("degreeWith of 0", x.degreeWith(1, 0), 0);
        Checks.sparse(x, 1, 24, 9);
        Checks.due("24 cut away", x.cut(1, 9), 24);
        Checks.coefficients("24 cut away", x, 1, 0);
    }

    // ---- one series twice in a call

    private static void targetsThatAreSources() {
        Checks.about("Operations, a target that is a source");
        CosineSeries x = Checks.with(2 * ONE, ONE);
        x.add(0, 3, 0, -1, 0);
        Checks.coefficients("add", x, 0, 4 * ONE, 2 * ONE);
        x.multiply(0, 0, 0);
        Checks.coefficients("multiply", x, 0, 18 * ONE, 16 * ONE, 2 * ONE);
        x.differentiate(0, 0);
        Checks.coefficients("differentiate", x, 0, 16 * ONE, 8 * ONE);
        x.antidifferentiate(0, 0);
        Checks.coefficients("antidifferentiate", x, 0, 14 * ONE, 16 * ONE, 2 * ONE);
        Checks.due("divide", x.divide(0, ONE, 0), 32 * ONE);
        Checks.coefficients("divide", x, 0, 20 * ONE, 4 * ONE);
        Checks.fill(x, 0, ONE, 2 * ONE);
        x.compose(0, 0, 0);
        Checks.coefficients("compose", x, 0, 3 * ONE, 4 * ONE);
        Checks.fill(x, 1, 0, 0, ONE);
        x.compose(1, 0, 1);
        Checks.coefficients("compose into f", x, 1, 33 * ONE, 48 * ONE, 16 * ONE);
        Checks.fill(x, 1, 0, 0, ONE);
        x.compose(1, 0, 0);
        Checks.coefficients("compose into g", x, 0, 33 * ONE, 48 * ONE, 16 * ONE);
    }
}
