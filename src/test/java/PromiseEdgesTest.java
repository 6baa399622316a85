import java.lang.reflect.Method;

/**
 * Promises 1 to 24: what stands behind "Returns", at the edges of each argument's range and of the state. What lies
 * beyond the ranges is in RangeTest, errors are in SectionErrorsTest, and promises 25 to 27 in SectionRootsTest.
 */
public final class PromiseEdgesTest {
    private static final int ONE = Checks.ONE;
    private static final int MOST = Checks.MOST;
    private static final int MOST_VALUE = Checks.MOST_VALUE;

    public static void main(String[] args) throws Exception {
        publicConstants();
        promise01NewObjects();
        promise02TheDegreeThen();
        promise02CoefficientsBetween();
        promise03AboveTheDegree();
        promise04Degree();
        promise05Copy();
        promise06Value();
        promise07Factors();
        promise08Multiply();
        promise09Differentiate();
        promise10Antidifferentiate();
        promise11Compose();
        promise12Remainder();
        promise13NumberCutAway();
        promise14Basis();
        promise15Integral();
        promise16Inner();
        promise17Bound();
        promise18LeastDegree();
        promise19Places();
        promise19EqualOnes();
        promise20PreviousValue();
        promise21DegreeOfAnInterpolation();
        promise22NumberOfValues();
        promise23Difference();
        promise24Points();
        lastOf512Calls();
        Checks.finish("PromiseEdgesTest");
    }

    private static void due(String what, long got, long want) {
        Checks.due(what, got, want);
    }

    private static void publicConstants() {
        Checks.about("The public face, the constants");
        due("ONE", CosineSeries.ONE, 1 << 20);
        due("INVALID_ARGUMENT", CosineSeries.INVALID_ARGUMENT, -9000000000000000001L);
        due("NOT_POSSIBLE", CosineSeries.NOT_POSSIBLE, -9000000000000000002L);
        due("OVERFLOW", CosineSeries.OVERFLOW, -9000000000000000003L);
        due("NOT_FOUND", CosineSeries.NOT_FOUND, -9000000000000000004L);
    }

    /** Each method is called once on an object of its own, and on none of them before. */
    private static void promise01NewObjects() throws Exception {
        Checks.about("Promise 1, \"Creates eight series that are 0\"");
        CosineSeries used = new CosineSeries();
        Checks.full(used, 7, MOST);
        used.setValue(16, MOST_VALUE);
        CosineSeries x = new CosineSeries();
        for (int i = 0; i < 8; i++) {
            Checks.coefficients("series " + i, x, i, 0);
            due("value of " + i, x.value(i, ONE), 0);
            due("integral of " + i, x.integral(i), 0);
            due("bound of " + i, x.bound(i), 0);
        }
        Checks.about("Promises 1 and 20, the values of a new object: \"initially all are 0\"");
        for (int j = 0; j <= 16; j++) {
            due("v(" + j + ")", x.setValue(j, 1), 0);
        }
        Checks.about("Promise 1, the first call of a new object");
        for (Method m : CosineSeries.class.getDeclaredMethods()) {
            if (java.lang.reflect.Modifier.isPublic(m.getModifiers())) {
                Object[] zeros = new Object[m.getParameterCount()];
                java.util.Arrays.fill(zeros, 0);
                long want = new Reference().answer(m.getName(), new int[zeros.length]);
                due(m.getName() + " of zeros", (Long) m.invoke(new CosineSeries(), zeros), want);
            }
        }
    }

    // ---- series

    private static void promise02TheDegreeThen() {
        Checks.about("Promise 2, \"Returns the degree then\"");
        CosineSeries x = new CosineSeries();
        due("c(0) of 0", x.setCoefficient(0, 0, 3), 0);
        due("a new last one", x.setCoefficient(0, 24, -1), 24);
        due("below the last one", x.setCoefficient(0, 12, 5), 24);
        due("another last one", x.setCoefficient(0, 24, 2), 24);
        due("the last one becomes 0", x.setCoefficient(0, 24, 0), 12);
        due("a 0 just above the degree", x.setCoefficient(0, 13, 0), 12);
        due("one just above the degree", x.setCoefficient(0, 13, 1), 13);
        due("c(0) becomes 0", x.setCoefficient(0, 0, 0), 13);
        due("c(13) becomes 0", x.setCoefficient(0, 13, 0), 12);
        due("c(12) becomes 0", x.setCoefficient(0, 12, 0), 0);
        Checks.coefficients("all are 0", x, 0, 0);
    }

    private static void promise02CoefficientsBetween() {
        Checks.about("Promise 2, \"coefficients between that did not exist become 0\"");
        CosineSeries x = new CosineSeries();
        Checks.full(x, 0, 7);
        x.cut(0, 7 * 24);
        x.setCoefficient(0, 24, 5);
        due("after a cut, degree", x.degree(0), 24);
        due("after a cut, bound", x.bound(0), 7 + 5);
        Checks.full(x, 1, 7);
        x.copy(2, 1);
        x.setCoefficient(1, 3, 1);
        Checks.coefficients("after a copy", x, 1, 0, 0, 0, 1);
        Checks.full(x, 1, 7);
        x.basis(1, 1);
        x.setCoefficient(1, 3, 1);
        Checks.coefficients("after a basis", x, 1, 0, ONE, 0, 1);
        Checks.full(x, 1, 7);
        x.differentiate(2, 1);
        x.setCoefficient(1, 3, 1);
        Checks.coefficients("after a derivative", x, 1, 0, 0, 0, 1);
        Checks.full(x, 1, 7);
        x.interpolate(0, 1);
        x.setCoefficient(1, 3, 1);
        Checks.coefficients("after an interpolation", x, 1, 0, 0, 0, 1);
    }

    private static void promise03AboveTheDegree() {
        Checks.about("Promise 3, \"the coefficient, 0 if k is above the degree\"");
        CosineSeries x = Checks.with(-5, 6);
        due("c(0)", x.coefficient(0, 0), -5);
        due("at the degree", x.coefficient(0, 1), 6);
        due("just above the degree", x.coefficient(0, 2), 0);
        due("at 24", x.coefficient(0, 24), 0);
        x.setCoefficient(7, 24, -MOST);
        due("at a degree of 24", x.coefficient(7, 24), -MOST);
        due("just below it", x.coefficient(7, 23), 0);
        due("at 25", x.coefficient(7, 25), Checks.INVALID);
        due("at -1", x.coefficient(7, -1), Checks.INVALID);
    }

    private static void promise04Degree() {
        Checks.about("Promise 4, \"Returns the degree\"");
        CosineSeries x = new CosineSeries();
        for (int k = 0; k <= 24; k++) {
            x.basis(k, k % 8);
            due("of T(" + k + ")", x.degree(k % 8), k);
        }
        Checks.fill(x, 0, 0);
        due("of 0", x.degree(0), 0);
    }

    private static void promise05Copy() {
        Checks.about("Promise 5, \"Copies a series\" and \"Returns the degree\"");
        CosineSeries x = new CosineSeries();
        Checks.full(x, 0, -MOST);
        due("of degree 24", x.copy(0, 7), 24);
        due("all of it", x.bound(7), 25L * MOST);
        due("its sign", x.value(7, ONE), -25L * MOST);
        x.setCoefficient(7, 24, 0);
        due("the source is another one", x.degree(0), 24);
        due("onto itself", x.copy(7, 7), 23);
        due("onto itself, bound", x.bound(7), 24L * MOST);
        due("of 0", x.copy(3, 7), 0);
        Checks.coefficients("of 0", x, 7, 0);
    }

    private static void promise06Value() {
        Checks.about("Promise 6, \"Returns the value\"");
        CosineSeries x = Checks.with(-1, 1);
        due("at -ONE", x.value(0, -ONE), -2);
        due("at ONE", x.value(0, ONE), 0);
        due("at -ONE - 1", x.value(0, -ONE - 1), Checks.INVALID);
        due("at ONE + 1", x.value(0, ONE + 1), Checks.INVALID);
    }

    // ---- operations

    private static void promise07Factors() {
        Checks.about("Promise 7, \"fa: -1000 to 1000\", \"fb: -1000 to 1000\"");
        CosineSeries x = Checks.with(3, -4);
        Checks.fill(x, 1, 50, 60, 70);
        int[][] rows = {{-1000, 1000}, {1000, -1000}, {-1000, -1000}, {1000, 1000}, {0, 1}, {1, 0}, {999, -999}};
        for (int[] row : rows) {
            int fa = row[0];
            int fb = row[1];
            due(fa + " and " + fb, x.add(0, fa, 1, fb, 2), fb == 0 ? 1 : 2);
            due(fa + " and " + fb + ", c(0)", x.coefficient(2, 0), 3 * fa + 50 * fb);
            due(fa + " and " + fb + ", c(1)", x.coefficient(2, 1), -4 * fa + 60 * fb);
            due(fa + " and " + fb + ", c(2)", x.coefficient(2, 2), 70 * fb);
        }
        due("1001", x.add(0, 1001, 1, 0, 2), Checks.INVALID);
        due("-1001", x.add(0, 0, 1, -1001, 2), Checks.INVALID);
        Checks.full(x, 0, MOST);
        due("1000 and 1000 times 2^28", x.add(0, 1000, 0, 1000, 2), Checks.OVERFLOW);
        due("1000 and -1000 times 2^28", x.add(0, 1000, 0, -1000, 2), 0);
        Checks.coefficients("1000 and -1000 times 2^28", x, 2, 0);
    }

    private static void promise08Multiply() {
        Checks.about("Promise 8, \"the degree of the result\", \"NOT_POSSIBLE if it is above 24\"");
        CosineSeries x = new CosineSeries();
        for (int k = 0; k <= 24; k++) {
            x.basis(k, 0);
            x.basis(24 - k, 1);
            due("T(" + k + ") T(" + (24 - k) + ")", x.multiply(0, 1, 2), 24);
            x.basis(25 - Math.max(k, 1), 1);
            due("T(" + k + ") T(" + (25 - Math.max(k, 1)) + ")", x.multiply(0, 1, 2), k == 0 ? 24 : Checks.IMPOSSIBLE);
        }
        due("0 by 0", x.multiply(6, 7, 2), 0);
    }

    private static void promise09Differentiate() {
        Checks.about("Promise 9, \"Returns the degree of the result\"");
        CosineSeries x = new CosineSeries();
        for (int k = 0; k <= 24; k++) {
            x.basis(k, 0);
            due("of T(" + k + ")", x.differentiate(0, 1), Math.max(k - 1, 0));
        }
    }

    private static void promise10Antidifferentiate() {
        Checks.about("Promise 10, \"the degree of the result\", \"NOT_POSSIBLE if it is above 24\"");
        CosineSeries x = new CosineSeries();
        due("of 0", x.antidifferentiate(0, 1), 0);
        for (int k = 0; k <= 24; k++) {
            x.basis(k, 0);
            due("of T(" + k + ")", x.antidifferentiate(0, 1), k == 24 ? Checks.IMPOSSIBLE : k + 1);
        }
    }

    private static void promise11Compose() {
        Checks.about("Promise 11, \"the degree of the result\", \"NOT_POSSIBLE if some degree is above 24\"");
        CosineSeries x = new CosineSeries();
        for (int f = 0; f <= 24; f += 2) {
            for (int g = 0; g <= 24; g += 3) {
                x.basis(f, 0);
                x.basis(g, 1);
                due("T(" + f + ") of T(" + g + ")", x.compose(0, 1, 2), f * g > 24 ? Checks.IMPOSSIBLE : f * g);
            }
        }
    }

    private static void promise12Remainder() {
        Checks.about("Promise 12, \"Returns the remainder\"");
        CosineSeries x = Checks.with(5, 6, 7);
        due("by x - 1", x.divide(0, ONE, 1), 18);
        Checks.coefficients("by x - 1", x, 1, 6 + 14, 14);
        due("by x + 1", x.divide(0, -ONE, 1), 6);
        Checks.coefficients("by x + 1", x, 1, 6 - 14, 14);
        due("by x", x.divide(0, 0, 1), -2);
        Checks.coefficients("by x", x, 1, 6, 14);
        due("a remainder of 0", x.divide(7, ONE, 1), 0);
        due("r of ONE + 1", x.divide(0, ONE + 1, 1), Checks.INVALID);
        due("r of -ONE - 1", x.divide(0, -ONE - 1, 1), Checks.INVALID);
        Checks.fill(x, 0, -MOST, MOST);
        due("the least remainder of degree 1", x.divide(0, -ONE, 1), -2L * MOST);
    }

    private static void promise13NumberCutAway() {
        Checks.about("Promise 13, \"Returns the number of coefficients that were cut away\"");
        CosineSeries x = Checks.with(0, 1);
        due("by 0", x.cut(0, 0), 0);
        due("by 1", x.cut(0, 1), 1);
        due("of degree 0", x.cut(0, 1), 0);
        Checks.sparse(x, 0, 24, 1000);
        due("by 999", x.cut(0, 999), 0);
        due("by 1000", x.cut(0, 1000), 24);
        Checks.full(x, 0, 1);
        due("by 23", x.cut(0, 23), 23);
        due("is left", x.degree(0), 1);
        due("by 10^9", x.cut(0, 1000000000), 1);
        due("by 10^9 + 1", x.cut(0, 1000000001), Checks.INVALID);
        due("by -1", x.cut(0, -1), Checks.INVALID);
    }

    private static void promise14Basis() {
        Checks.about("Promise 14, \"Makes the series T(k)\" and \"Returns k\"");
        CosineSeries x = new CosineSeries();
        Checks.full(x, 0, 9);
        for (int k = 24; k >= 0; k--) {
            due("T(" + k + ")", x.basis(k, 0), k);
            due("T(" + k + "), degree", x.degree(0), k);
            due("T(" + k + "), last", x.coefficient(0, k), ONE);
            due("T(" + k + "), bound", x.bound(0), ONE);
        }
        due("T(25)", x.basis(25, 0), Checks.INVALID);
        due("T(-1)", x.basis(-1, 0), Checks.INVALID);
    }

    // ---- numbers

    private static void promise15Integral() {
        Checks.about("Promise 15, \"Returns the integral\"");
        CosineSeries x = new CosineSeries();
        due("of 0", x.integral(0), 0);
        Checks.fill(x, 0, -MOST);
        due("of -2^28", x.integral(0), -2L * MOST);
        Checks.fill(x, 0, 0, MOST);
        due("of 2^28 x", x.integral(0), 0);
        // 2^29 / 3 is 178956970.67, and 2^29 / 575 is 933688.54.
        Checks.fill(x, 0, 0, 0, MOST);
        due("of 2^28 T(2)", x.integral(0), -178956971);
        Checks.sparse(x, 0, 24, MOST);
        due("of 2^28 T(24)", x.integral(0), -933689);
    }

    private static void promise16Inner() {
        Checks.about("Promise 16, \"Returns the inner product\"");
        CosineSeries x = Checks.with(ONE, ONE);
        due("with 0", x.inner(0, 7), 0);
        due("0 with 0", x.inner(7, 7), 0);
        due("with itself", x.inner(0, 0), 3 * ONE);
        Checks.sparse(x, 1, 24, MOST);
        Checks.sparse(x, 2, 24, -MOST);
        due("of T(24) alone", x.inner(1, 2), -1L << 36);
        due("of different degrees", x.inner(0, 1), 0);
    }

    private static void promise17Bound() {
        Checks.about("Promise 17, \"the sum of the absolute values of all coefficients\"");
        CosineSeries x = Checks.with(-MOST);
        due("of degree 0", x.bound(0), MOST);
        Checks.sparse(x, 0, 0, 1, 24, -2);
        due("of the first and the last", x.bound(0), 3);
        Checks.full(x, 0, -MOST);
        due("of all", x.bound(0), 25L * MOST);
        due("of 0", x.bound(7), 0);
    }

    private static void promise18LeastDegree() {
        Checks.about("Promise 18, \"the least degree to which a series can be cut by a tolerance, without cutting it\"");
        CosineSeries x = Checks.with(9, 0, 0, 5, -6);
        int[][] rows = {{0, 4}, {5, 4}, {6, 3}, {10, 3}, {11, 0}, {19, 0}, {20, 0}, {1000000000, 0}};
        for (int[] row : rows) {
            due("by " + row[0], x.degreeWith(0, row[0]), row[1]);
        }
        Checks.coefficients("it is not cut", x, 0, 9, 0, 0, 5, -6);
        due("by 10^9 + 1", x.degreeWith(0, 1000000001), Checks.INVALID);
        due("by -1", x.degreeWith(0, -1), Checks.INVALID);
        Checks.sparse(x, 0, 24, -MOST);
        due("by 2^28 - 1", x.degreeWith(0, MOST - 1), 24);
        due("by 2^28", x.degreeWith(0, MOST), 0);
    }

    private static void promise19Places() {
        Checks.about("Promise 19, \"NOT_FOUND if place is above the degree\"");
        CosineSeries x = new CosineSeries();
        for (int k = 0; k <= 24; k++) {
            x.setCoefficient(0, k, (k + 1) * (k % 2 == 0 ? 1 : -1));
            due("the greatest of degree " + k, x.byValue(0, 0), k);
            due("the least of degree " + k, x.byValue(0, k), 0);
            due("above the degree " + k, x.byValue(0, k + 1), k == 24 ? Checks.INVALID : Checks.MISSING);
        }
        due("place -1", x.byValue(0, -1), Checks.INVALID);
        due("of 0", x.byValue(1, 0), 0);
        due("of 0, above", x.byValue(1, 1), Checks.MISSING);
    }

    private static void promise19EqualOnes() {
        Checks.about("Promise 19, \"of equal ones the lowest index first\"");
        CosineSeries x = new CosineSeries();
        Checks.full(x, 0, -MOST);
        Checks.sparse(x, 1, 24, 1);
        for (int place = 0; place <= 24; place++) {
            due("all are equal, place " + place, x.byValue(0, place), place);
            due("all but the last are 0, place " + place, x.byValue(1, place), place == 0 ? 24 : place - 1);
        }
        Checks.fill(x, 2, -3, 3, 5, -5);
        int[] order = {2, 3, 0, 1};
        for (int place = 0; place < 4; place++) {
            due("of both signs, place " + place, x.byValue(2, place), order[place]);
        }
    }

    // ---- extreme points

    private static void promise20PreviousValue() {
        Checks.about("Promise 20, \"Returns the previous value\"");
        CosineSeries x = new CosineSeries();
        for (int j = 0; j <= 16; j++) {
            due("first at " + j, x.setValue(j, MOST_VALUE), 0);
            due("2^27 at " + j, x.setValue(j, -MOST_VALUE), MOST_VALUE);
            due("2^27 + 1 at " + j, x.setValue(j, MOST_VALUE + 1), Checks.INVALID);
            due("-2^27 - 1 at " + j, x.setValue(j, -MOST_VALUE - 1), Checks.INVALID);
            due("-2^27 at " + j, x.setValue(j, j), -MOST_VALUE);
        }
        for (int j = 0; j <= 16; j++) {
            due("the others stay, " + j, x.setValue(j, 0), j);
        }
        due("at 17", x.setValue(17, 0), Checks.INVALID);
        due("at -1", x.setValue(-1, 0), Checks.INVALID);
    }

    private static void promise21DegreeOfAnInterpolation() {
        Checks.about("Promise 21, \"Returns the degree of the result\"");
        CosineSeries x = new CosineSeries();
        for (int power = 0; power <= 4; power++) {
            int n = 1 << power;
            for (int j = 0; j <= n; j++) {
                x.setValue(j, j % 2 == 0 ? 1000 : -1000);
            }
            Checks.full(x, 3, 5);
            due("of T(N), N = " + n, x.interpolate(power, 3), n);
            due("c(N), N = " + n, x.coefficient(3, n), 1000);
            due("bound, N = " + n, x.bound(3), 1000);
        }
        due("power 5", x.interpolate(5, 3), Checks.INVALID);
        due("power -1", x.interpolate(-1, 3), Checks.INVALID);
    }

    private static void promise22NumberOfValues() {
        Checks.about("Promise 22, \"Returns the number of values\"");
        CosineSeries x = Checks.with(5);
        int[] numbers = {2, 3, 5, 9, 17};
        for (int power = 0; power <= 4; power++) {
            due("power " + power, x.sample(0, power), numbers[power]);
        }
        due("power 5", x.sample(0, 5), Checks.INVALID);
        due("power -1", x.sample(0, -1), Checks.INVALID);
    }

    private static void promise23Difference() {
        Checks.about("Promise 23, \"Returns the difference\"");
        CosineSeries x = new CosineSeries();
        for (int power = 0; power <= 4; power++) {
            due("of 0 and 0, power " + power, x.misfit(0, power), 0);
        }
        x.setValue(16, -3);
        due("only N = 16 has v(16)", x.misfit(0, 3), 0);
        due("v(16)", x.misfit(0, 4), 3);
        due("power 5", x.misfit(0, 5), Checks.INVALID);
        due("power -1", x.misfit(0, -1), Checks.INVALID);
    }

    private static void promise24Points() {
        Checks.about("Promise 24, \"Returns x(j)\"");
        CosineSeries x = new CosineSeries();
        for (int power = 0; power <= 4; power++) {
            int n = 1 << power;
            due("the first, N = " + n, x.extremePoint(power, 0), ONE);
            due("the last, N = " + n, x.extremePoint(power, n), -ONE);
            due("behind the last, N = " + n, x.extremePoint(power, n + 1), Checks.INVALID);
            due("before the first, N = " + n, x.extremePoint(power, -1), Checks.INVALID);
        }
    }

    private static void lastOf512Calls() {
        Checks.about("What it is, \"used for at most 512 calls\"");
        CosineSeries x = new CosineSeries();
        for (int i = 0; i < 511; i++) {
            x.setCoefficient(i % 8, i % 25, i);
        }
        // The last one at series 6 and index 10 of those 511 calls is 510, which is 6 mod 8 and 10 mod 25.
        due("the 512th call", x.coefficient(6, 10), 510);
    }
}
