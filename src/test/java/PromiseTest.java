/** Every promise with answers worked out by hand from the document. */
public final class PromiseTest {
    private static final int ONE = 1048576;
    private static final int MOST = 268435456;

    public static void main(String[] args) {
        promise01NewObject();
        promise02SetCoefficient();
        promise03Coefficient();
        promise04Degree();
        promise05Copy();
        promise06Value();
        promise07Add();
        promise08Multiply();
        promise08MultiplyErrors();
        promise09Differentiate();
        promise10Antidifferentiate();
        promise10AntidifferentiateErrors();
        promise11Compose();
        promise11ComposeErrors();
        promise12Divide();
        promise12DivideErrors();
        promise13Cut();
        promise14Basis();
        promise15Integral();
        promise16Inner();
        promise17Bound();
        promise18DegreeWith();
        promise19ByValue();
        promise20SetValue();
        promise21Interpolate();
        promise21InterpolateAgain();
        promise22Sample();
        promise23Misfit();
        promise24ExtremePoint();
        promise25Root();
        promise25RootEnds();
        promise26Intervals();
        promise27Greatest();
        Checks.finish("PromiseTest");
    }

    private static void due(String what, long got, long want) {
        Checks.due(what, got, want);
    }

    private static CosineSeries with(int... coefficients) {
        CosineSeries x = new CosineSeries();
        Checks.fill(x, 0, coefficients);
        return x;
    }

    private static void promise01NewObject() {
        CosineSeries x = new CosineSeries();
        for (int i = 0; i < 8; i++) {
            Checks.coefficients("new object, series " + i, x, i, 0);
        }
        for (int j = 0; j <= 16; j++) {
            due("new object, setValue " + j, x.setValue(j, 9), 0);
        }
        x.setCoefficient(3, 2, 5);
        CosineSeries other = new CosineSeries();
        due("another object, degree", other.degree(3), 0);
        due("another object, setValue", other.setValue(3, 1), 0);
    }

    private static void promise02SetCoefficient() {
        CosineSeries x = new CosineSeries();
        due("set 5", x.setCoefficient(7, 5, -3), 5);
        due("set 2", x.setCoefficient(7, 2, 4), 5);
        Checks.coefficients("set", x, 7, 0, 0, 4, 0, 0, -3);
        due("set the last to 0", x.setCoefficient(7, 5, 0), 2);
        due("set one in between to 0", x.setCoefficient(7, 1, 0), 2);
        due("set above again", x.setCoefficient(7, 6, 1), 6);
        Checks.coefficients("old coefficients do not come back", x, 7, 0, 0, 4, 0, 0, 0, 1);
        due("set 0 above the degree", x.setCoefficient(7, 24, 0), 6);
        due("set to the least", x.setCoefficient(0, 24, -MOST), 24);
        due("the least", x.coefficient(0, 24), -MOST);
        due("set to the greatest", x.setCoefficient(0, 0, MOST), 24);
        due("the greatest", x.coefficient(0, 0), MOST);
        due("a value too great", x.setCoefficient(0, 0, MOST + 1), Checks.INVALID);
        due("nothing changed", x.coefficient(0, 0), MOST);
        due("only c(0)", x.setCoefficient(1, 0, 0), 0);
    }

    private static void promise03Coefficient() {
        CosineSeries x = with(7, 0, -9);
        due("coefficient 0", x.coefficient(0, 0), 7);
        due("coefficient 1", x.coefficient(0, 1), 0);
        due("coefficient 2", x.coefficient(0, 2), -9);
        due("above the degree", x.coefficient(0, 3), 0);
        due("far above the degree", x.coefficient(0, 24), 0);
        due("no such index", x.coefficient(0, 25), Checks.INVALID);
        due("no such series", x.coefficient(-1, 0), Checks.INVALID);
        x.cut(0, 9);
        due("after a cut", x.coefficient(0, 2), 0);
    }

    private static void promise04Degree() {
        CosineSeries x = with(1, 2, 3, 0);
        due("degree", x.degree(0), 2);
        x.setCoefficient(7, 24, 1);
        due("the highest degree", x.degree(7), 24);
        due("no such series", x.degree(8), Checks.INVALID);
    }

    private static void promise05Copy() {
        CosineSeries x = with(1, -2, 3);
        Checks.fill(x, 4, 9, 9, 9, 9, 9);
        due("copy", x.copy(0, 4), 2);
        Checks.coefficients("copy", x, 4, 1, -2, 3);
        x.setCoefficient(0, 1, 8);
        due("the copy stands alone", x.coefficient(4, 1), -2);
        due("copy onto itself", x.copy(4, 4), 2);
        Checks.coefficients("copy onto itself", x, 4, 1, -2, 3);
        due("copy of 0", x.copy(5, 0), 0);
        Checks.coefficients("copy of 0", x, 0, 0);
    }

    private static void promise06Value() {
        CosineSeries x = with(1, 2, 3);
        due("1.5 is rounded to 2", x.value(0, ONE / 4), -1);
        due("-1.5 is rounded to -1", x.value(0, -ONE / 4), -2);
        due("at ONE", x.value(0, ONE), 6);
        due("at -ONE", x.value(0, -ONE), 2);
        due("at 0", x.value(0, 0), -2);
        due("of 0", x.value(1, 12345), 0);
        due("beyond ONE", x.value(0, ONE + 1), Checks.INVALID);
        x.basis(3, 2);
        due("T(3) at 1/2", x.value(2, ONE / 2), -ONE);
        for (int k = 0; k <= 24; k++) {
            x.setCoefficient(3, k, k % 2 == 0 ? MOST : -MOST);
        }
        due("the greatest value", x.value(3, -ONE), 25L * MOST);
    }

    private static void promise07Add() {
        CosineSeries x = with(1, 2, 3);
        Checks.fill(x, 1, 10, 20);
        due("add", x.add(0, 2, 1, -3, 2), 2);
        Checks.coefficients("add", x, 2, -28, -56, 6);
        due("add into a", x.add(0, 1, 1, 1, 0), 2);
        Checks.coefficients("add into a", x, 0, 11, 22, 3);
        due("the sum is trimmed", x.add(0, 1, 0, -1, 3), 0);
        Checks.coefficients("the sum is trimmed", x, 3, 0);
        due("a series with itself", x.add(1, 1000, 1, -999, 1), 1);
        Checks.coefficients("a series with itself", x, 1, 10, 20);
        x.setCoefficient(4, 3, MOST);
        due("just not too large", x.add(4, 1000, 4, -999, 5), 3);
        due("the largest", x.coefficient(5, 3), MOST);
        x.setCoefficient(6, 3, -1);
        due("too large", x.add(4, 1, 6, -1, 5), Checks.OVERFLOW);
        due("too small", x.add(4, -1, 6, 1, 4), Checks.OVERFLOW);
        due("much too large", x.add(4, 1000, 4, 1000, 5), Checks.OVERFLOW);
        due("an overflow changes nothing", x.coefficient(4, 3), MOST);
        due("a wrong argument before an overflow", x.add(4, 2, 4, 1001, 5), Checks.INVALID);
    }

    private static void promise08Multiply() {
        CosineSeries x = new CosineSeries();
        x.basis(2, 0);
        x.basis(3, 1);
        due("T(2) T(3)", x.multiply(0, 1, 2), 5);
        Checks.coefficients("T(2) T(3)", x, 2, 0, ONE / 2, 0, 0, 0, ONE / 2);
        due("T(2) T(2)", x.multiply(0, 0, 0), 4);
        Checks.coefficients("T(2) T(2)", x, 0, ONE / 2, 0, 0, 0, ONE / 2);
        x.basis(0, 3);
        due("1 T(3)", x.multiply(3, 1, 1), 3);
        Checks.coefficients("1 T(3)", x, 1, 0, 0, 0, ONE);
        x.setCoefficient(4, 0, 1);
        x.setCoefficient(5, 0, ONE / 2);
        x.multiply(4, 5, 6);
        due("1/2 is rounded to 1", x.coefficient(6, 0), 1);
        x.setCoefficient(4, 0, -1);
        x.multiply(4, 5, 6);
        due("-1/2 is rounded to 0", x.coefficient(6, 0), 0);
        Checks.fill(x, 4, 3 * ONE, 2 * ONE);
        Checks.fill(x, 5, -ONE, 4 * ONE);
        due("(3 + 2 x)(-1 + 4 x)", x.multiply(4, 5, 6), 2);
        Checks.coefficients("(3 + 2 x)(-1 + 4 x)", x, 6, ONE, 10 * ONE, 4 * ONE);
    }

    private static void promise08MultiplyErrors() {
        CosineSeries x = new CosineSeries();
        x.basis(12, 0);
        x.basis(13, 1);
        x.basis(24, 3);
        due("degree 24", x.multiply(0, 0, 2), 24);
        due("degree 25", x.multiply(0, 1, 0), Checks.IMPOSSIBLE);
        due("degree 48", x.multiply(3, 3, 3), Checks.IMPOSSIBLE);
        Checks.that("an error", x.degree(0) == 12 && x.degree(3) == 24, "changed something");
        due("a wrong argument before the degree", x.multiply(0, 1, 8), Checks.INVALID);
        x.setCoefficient(0, 0, MOST);
        due("the degree before an overflow", x.multiply(0, 1, 2), Checks.IMPOSSIBLE);
        x.setCoefficient(4, 12, 1024);
        x.setCoefficient(5, 13, 1024);
        due("a last coefficient of 1/2", x.multiply(4, 5, 6), Checks.IMPOSSIBLE);
        x.setCoefficient(5, 13, -1024);
        due("a last coefficient of -1/2 is trimmed", x.multiply(4, 5, 6), 0);
        Checks.fill(x, 4, MOST);
        Checks.fill(x, 5, ONE);
        due("just not too large", x.multiply(4, 5, 6), 0);
        Checks.fill(x, 5, ONE + 1);
        due("too large", x.multiply(4, 5, 6), Checks.OVERFLOW);
        due("an overflow changes nothing", x.coefficient(6, 0), MOST);
        for (int k = 0; k <= 24; k++) {
            x.setCoefficient(6, k, MOST);
        }
        Checks.fill(x, 7, 0, 0);
        due("the largest sums", x.multiply(6, 6, 7), Checks.IMPOSSIBLE);
        due("by 0", x.multiply(6, 7, 7), 0);
    }

    private static void promise09Differentiate() {
        CosineSeries x = with(4, 5, 6, 7);
        due("derivative", x.differentiate(0, 1), 2);
        Checks.coefficients("derivative", x, 1, 5 + 3 * 7, 24, 42);
        due("into itself", x.differentiate(0, 0), 2);
        Checks.coefficients("into itself", x, 0, 26, 24, 42);
        due("of a constant", x.differentiate(5, 0), 0);
        Checks.coefficients("of a constant", x, 0, 0);
        x.setCoefficient(2, 1, MOST);
        due("d(0) is halved before it is looked at", x.differentiate(2, 3), 0);
        due("d(0)", x.coefficient(3, 0), MOST);
        Checks.fill(x, 2, 0, 0, MOST / 4);
        due("just not too large", x.differentiate(2, 3), 1);
        Checks.fill(x, 2, 0, 0, MOST / 4 + 1);
        due("too large", x.differentiate(2, 2), Checks.OVERFLOW);
        due("an overflow changes nothing", x.coefficient(2, 2), MOST / 4 + 1);
        x.setCoefficient(2, 24, MOST);
        due("much too large", x.differentiate(2, 3), Checks.OVERFLOW);
        due("a wrong argument before an overflow", x.differentiate(2, -1), Checks.INVALID);
    }

    private static void promise10Antidifferentiate() {
        CosineSeries x = with(ONE);
        due("of 1", x.antidifferentiate(0, 1), 1);
        Checks.coefficients("of 1", x, 1, ONE, ONE);
        Checks.fill(x, 2, 0, 8);
        due("of x", x.antidifferentiate(2, 2), 2);
        Checks.coefficients("of x", x, 2, -2, 0, 2);
        Checks.fill(x, 2, 10, 20, 30, 40);
        due("of four", x.antidifferentiate(2, 3), 4);
        Checks.coefficients("of four", x, 3, -5 + 5 + 5 - 5, -5, -5, 5, 5);
        due("at -ONE", x.value(3, -ONE), 0);
        Checks.fill(x, 2, 0, 2);
        due("1/2 is rounded to 1", x.antidifferentiate(2, 3), 2);
        Checks.fill(x, 2, 0, -2);
        due("-1/2 is rounded to 0, and trimmed", x.antidifferentiate(2, 3), 0);
        due("of 0", x.antidifferentiate(7, 3), 0);
        Checks.coefficients("of 0", x, 3, 0);
    }

    private static void promise10AntidifferentiateErrors() {
        CosineSeries x = new CosineSeries();
        x.setCoefficient(0, 24, 25);
        due("degree 25", x.antidifferentiate(0, 0), Checks.IMPOSSIBLE);
        due("it changes nothing", x.coefficient(0, 24), 25);
        due("a wrong argument before the degree", x.antidifferentiate(0, 8), Checks.INVALID);
        x.setCoefficient(0, 24, 24);
        due("the highest coefficient is trimmed", x.antidifferentiate(0, 1), 23);
        due("C(23)", x.coefficient(1, 23), -1);
        due("C(0)", x.coefficient(1, 0), -1);
        x.setCoefficient(0, 24, -25);
        due("it is trimmed below 0", x.antidifferentiate(0, 1), 23);
        due("C(23) below 0", x.coefficient(1, 23), 1);
        Checks.fill(x, 2, MOST, 0, -2);
        due("too large", x.antidifferentiate(2, 3), Checks.OVERFLOW);
        Checks.fill(x, 2, MOST, -2);
        due("just not too large", x.antidifferentiate(2, 3), 1);
        Checks.coefficients("just not too large", x, 3, MOST, MOST);
        Checks.fill(x, 2, MOST, -4);
        due("C(0) too large", x.antidifferentiate(2, 2), Checks.OVERFLOW);
        due("an overflow changes nothing", x.coefficient(2, 1), -4);
        x.setCoefficient(2, 24, MOST);
        due("the degree before an overflow", x.antidifferentiate(2, 3), Checks.IMPOSSIBLE);
    }

    private static void promise11Compose() {
        CosineSeries x = new CosineSeries();
        x.basis(2, 0);
        due("T(2) of T(2) into itself", x.compose(0, 0, 0), 4);
        Checks.coefficients("T(2) of T(2)", x, 0, 0, 0, 0, 0, ONE);
        x.basis(3, 1);
        x.basis(8, 2);
        due("T(3) of T(8)", x.compose(1, 2, 3), 24);
        due("T(24)", x.coefficient(3, 24), ONE);
        due("its bound", x.bound(3), ONE);
        Checks.fill(x, 4, 77);
        due("of a constant", x.compose(4, 2, 5), 0);
        Checks.coefficients("of a constant", x, 5, 77);
        Checks.fill(x, 4, 5, 2 * ONE);
        Checks.fill(x, 5, 1, 2, 3);
        due("5 + 2 g", x.compose(4, 5, 5), 2);
        Checks.coefficients("5 + 2 g", x, 5, 7, 4, 6);
        Checks.fill(x, 4, 0, 0, 1);
        Checks.fill(x, 5, ONE / 4);
        due("the product is rounded, then doubled", x.compose(4, 5, 6), 0);
        Checks.coefficients("the product is rounded, then doubled", x, 6, -1);
        Checks.fill(x, 5, ONE / 2);
        x.compose(4, 5, 6);
        Checks.coefficients("1/2 is rounded to 1, and doubled", x, 6, 0);
        Checks.fill(x, 4, 0, -MOST, MOST);
        Checks.fill(x, 5, ONE / 4 * 3);
        due("the doubled product is not looked at", x.compose(4, 5, 6), 0);
        Checks.coefficients("the doubled product is not looked at", x, 6, -167772160);
        Checks.fill(x, 4, 1, 2, 3);
        due("of the series 0", x.compose(4, 7, 6), 0);
        Checks.coefficients("of the series 0", x, 6, -2);
    }

    private static void promise11ComposeErrors() {
        CosineSeries x = new CosineSeries();
        x.basis(3, 0);
        x.basis(9, 1);
        due("degree 27", x.compose(0, 1, 0), Checks.IMPOSSIBLE);
        due("it changes nothing", x.degree(0), 3);
        due("a wrong argument before the degree", x.compose(0, 1, 8), Checks.INVALID);
        Checks.fill(x, 2, 0, 0, 0, 4 * ONE);
        x.setCoefficient(1, 9, MOST / 2);
        due("an overflow before the degree", x.compose(2, 1, 2), Checks.OVERFLOW);
        due("an overflow changes nothing", x.degree(2), 3);
        x.basis(13, 3);
        x.setCoefficient(3, 0, 64 * ONE);
        Checks.fill(x, 4, 0, 0, MOST / 64 / 4);
        due("degree and overflow at once", x.compose(4, 3, 5), Checks.IMPOSSIBLE);
        Checks.fill(x, 4, 0, 0, MOST);
        Checks.fill(x, 5, ONE / 4 * 3);
        due("t too large, the product not", x.compose(4, 5, 6), Checks.OVERFLOW);
        Checks.fill(x, 4, MOST, 1);
        Checks.fill(x, 5, ONE / 2);
        due("the result too large", x.compose(4, 5, 6), Checks.OVERFLOW);
        Checks.fill(x, 4, MOST, 0, 0);
        due("the result just not too large", x.compose(4, 5, 6), 0);
        Checks.fill(x, 4, 0, 3 * ONE);
        x.setCoefficient(5, 24, MOST / 2);
        due("a product too large", x.compose(4, 5, 6), Checks.OVERFLOW);
        Checks.coefficients("no error changed it", x, 6, MOST);
    }

    private static void promise12Divide() {
        CosineSeries x = new CosineSeries();
        x.basis(2, 0);
        due("T(2) by x - 1/2", x.divide(0, ONE / 2, 1), -ONE / 2);
        Checks.coefficients("T(2) by x - 1/2", x, 1, ONE, 2 * ONE);
        due("into itself", x.divide(0, ONE / 2, 0), -ONE / 2);
        Checks.coefficients("into itself", x, 0, ONE, 2 * ONE);
        Checks.fill(x, 2, 0, 0, 0, 0, 1);
        due("q(2) / 2 is rounded", x.divide(2, ONE / 4, 3), x.value(2, ONE / 4));
        Checks.coefficients("q(2) / 2 is rounded", x, 3, -1, -1, 1, 2);
        Checks.fill(x, 2, 0, 0, 0, 0, -1);
        due("q(2) / 2 below 0", x.divide(2, ONE / 4, 3), x.value(2, ONE / 4));
        Checks.coefficients("q(2) / 2 below 0", x, 3, 1, 2, -1, -2);
        Checks.fill(x, 2, 5, 7);
        due("of degree 1", x.divide(2, ONE, 3), 12);
        Checks.coefficients("of degree 1", x, 3, 7);
        Checks.fill(x, 2, 5);
        due("of degree 0", x.divide(2, -ONE, 3), 5);
        Checks.coefficients("of degree 0", x, 3, 0);
        Checks.fill(x, 2, 0, 0, 0, 9);
        due("of degree 3", x.divide(2, 0, 3), 0);
        Checks.coefficients("of degree 3", x, 3, -9, 0, 18);
    }

    private static void promise12DivideErrors() {
        CosineSeries x = with(3, 0, MOST / 2);
        due("just not too large", x.divide(0, 0, 1), 3 - MOST / 2);
        Checks.coefficients("just not too large", x, 1, 0, MOST);
        x.setCoefficient(0, 2, MOST / 2 + 1);
        due("too large", x.divide(0, 0, 0), Checks.OVERFLOW);
        Checks.coefficients("an overflow changes nothing", x, 0, 3, 0, MOST / 2 + 1);
        x.setCoefficient(0, 24, -MOST);
        due("much too large", x.divide(0, ONE, 1), Checks.OVERFLOW);
        due("a wrong argument before an overflow", x.divide(0, ONE + 1, 1), Checks.INVALID);
        due("no such target before an overflow", x.divide(0, ONE, 8), Checks.INVALID);
    }

    private static void promise13Cut() {
        CosineSeries x = with(5, -3, 2, -1);
        due("0 cuts nothing", x.cut(0, 0), 0);
        due("cut by 2", x.cut(0, 2), 1);
        Checks.coefficients("cut by 2", x, 0, 5, -3, 2);
        Checks.fill(x, 0, 5, -3, 2, -1);
        due("cut by 3", x.cut(0, 3), 2);
        Checks.coefficients("cut by 3", x, 0, 5, -3);
        Checks.fill(x, 0, 5, -3, 2, -1);
        due("c(0) stays", x.cut(0, 1000000000), 3);
        Checks.coefficients("c(0) stays", x, 0, 5);
        Checks.fill(x, 0, 5, 0, 0, 1);
        due("zeros are cut away too", x.cut(0, 1), 3);
        for (int k = 0; k <= 24; k++) {
            x.setCoefficient(1, k, k % 2 == 0 ? MOST : -MOST);
        }
        due("three large ones", x.cut(1, 1000000000), 3);
        due("are gone", x.degree(1), 21);
        x.setCoefficient(1, 24, 1);
        due("and do not come back", x.coefficient(1, 23), 0);
        due("of a constant", x.cut(0, 5), 0);
    }

    private static void promise14Basis() {
        CosineSeries x = with(1, 2, 3);
        due("T(1)", x.basis(1, 0), 1);
        Checks.coefficients("T(1)", x, 0, 0, ONE);
        due("T(0)", x.basis(0, 0), 0);
        Checks.coefficients("T(0)", x, 0, ONE);
        due("T(24)", x.basis(24, 7), 24);
        due("its last", x.coefficient(7, 24), ONE);
        due("its bound", x.bound(7), ONE);
        due("T(25)", x.basis(25, 7), Checks.INVALID);
    }

    private static void promise15Integral() {
        CosineSeries x = with(ONE, 12345, 0, 54321);
        due("of 1", x.integral(0), 2 * ONE);
        Checks.fill(x, 0, 0, 0, 1, 0, 8);
        due("each is rounded on its own", x.integral(0), -1 - 1);
        Checks.fill(x, 0, 0, 0, -1, 0, 7);
        due("-2/3 and 14/15", x.integral(0), 1 - 1);
        Checks.fill(x, 0, -3, 0, 0, 0, 7, 0, 18);
        due("14/15 and 36/35", x.integral(0), -6 - 1 - 1);
        due("of 0", x.integral(5), 0);
        x.setCoefficient(1, 24, -MOST);
        // 2^29 / 575 is 933688.5 and a bit.
        due("of T(24)", x.integral(1), 933689);
    }

    private static void promise16Inner() {
        CosineSeries x = with(1, 0, 3);
        Checks.fill(x, 1, ONE / 4, 5, ONE, 7);
        due("inner", x.inner(0, 1), 4);
        due("the other way", x.inner(1, 0), 4);
        x.setCoefficient(0, 0, -1);
        due("-1/2 is rounded to 0", x.inner(0, 1), 3);
        due("with 0", x.inner(0, 7), 0);
        for (int k = 0; k <= 24; k++) {
            x.setCoefficient(2, k, MOST);
        }
        due("the greatest", x.inner(2, 2), 26L << 36);
    }

    private static void promise17Bound() {
        CosineSeries x = with(-5, 0, 3, -1);
        due("bound", x.bound(0), 9);
        due("of 0", x.bound(1), 0);
        for (int k = 0; k <= 24; k++) {
            x.setCoefficient(2, k, -MOST);
        }
        due("the greatest", x.bound(2), 25L * MOST);
    }

    private static void promise18DegreeWith() {
        CosineSeries x = with(5, -3, 2, -1);
        due("by 0", x.degreeWith(0, 0), 3);
        due("by 2", x.degreeWith(0, 2), 2);
        due("by 3", x.degreeWith(0, 3), 1);
        due("by 5", x.degreeWith(0, 5), 1);
        due("by 6", x.degreeWith(0, 6), 0);
        due("by all", x.degreeWith(0, 1000000000), 0);
        Checks.coefficients("nothing is cut", x, 0, 5, -3, 2, -1);
        for (int k = 0; k <= 24; k++) {
            x.setCoefficient(1, k, MOST);
        }
        due("large ones", x.degreeWith(1, 1000000000), 21);
        due("of 0", x.degreeWith(2, 0), 0);
    }

    private static void promise19ByValue() {
        CosineSeries x = with(3, -5, 5, 0, 2);
        long[] order = {1, 2, 0, 4, 3};
        for (int place = 0; place < order.length; place++) {
            due("place " + place, x.byValue(0, place), order[place]);
        }
        due("above the degree", x.byValue(0, 5), Checks.MISSING);
        due("far above the degree", x.byValue(0, 24), Checks.MISSING);
        due("no such place", x.byValue(0, 25), Checks.INVALID);
        due("of 0", x.byValue(1, 0), 0);
        due("of 0, the next", x.byValue(1, 1), Checks.MISSING);
        for (int k = 0; k <= 24; k++) {
            x.setCoefficient(2, k, k - 12);
        }
        due("the first of two", x.byValue(2, 0), 0);
        due("the second of two", x.byValue(2, 1), 24);
        due("the last", x.byValue(2, 24), 12);
    }

    private static void promise20SetValue() {
        CosineSeries x = new CosineSeries();
        due("first", x.setValue(16, MOST / 2), 0);
        due("again", x.setValue(16, -MOST / 2), MOST / 2);
        due("too large", x.setValue(16, MOST / 2 + 1), Checks.INVALID);
        due("no such point", x.setValue(17, 1), Checks.INVALID);
        due("once more", x.setValue(16, 1), -MOST / 2);
        due("another point", x.setValue(0, 1), 0);
    }

    private static void promise21Interpolate() {
        CosineSeries x = with(9, 9, 9, 9);
        x.setValue(0, 1);
        due("1/2 is rounded to 1", x.interpolate(0, 0), 1);
        Checks.coefficients("1/2 is rounded to 1", x, 0, 1, 1);
        x.setValue(0, -1);
        due("-1/2 is rounded to 0, and trimmed", x.interpolate(0, 0), 0);
        Checks.coefficients("-1/2 is rounded to 0", x, 0, 0);
        x.setValue(0, 6);
        x.setValue(1, 100);
        x.setValue(2, -10);
        due("a parabola", x.interpolate(1, 1), 2);
        Checks.coefficients("a parabola", x, 1, (6 + 200 - 10) / 4, (6 + 10) / 2, (6 - 200 - 10) / 4);
        for (int j = 0; j <= 16; j++) {
            x.setValue(j, j % 2 == 0 ? MOST / 2 : -MOST / 2);
        }
        due("T(16)", x.interpolate(4, 2), 16);
        due("its last", x.coefficient(2, 16), MOST / 2);
        for (int j = 0; j <= 16; j++) {
            x.setValue(j, j < 8 ? MOST / 2 : -MOST / 2);
        }
        due("a step", x.interpolate(4, 3), 16);
        due("c(1) of a step", x.coefficient(3, 1), stepCoefficient());
        due("no such power", x.interpolate(5, 3), Checks.INVALID);
        due("only v(0) and v(1)", x.interpolate(0, 4), 0);
        Checks.coefficients("only v(0) and v(1)", x, 4, MOST / 2);
        x.basis(12, 5);
        x.multiply(5, 5, 6);
        x.interpolate(0, 6);
        Checks.coefficients("nothing is left of earlier results", x, 6, MOST / 2);
    }

    /** T(k) at the points has the one coefficient k; the rest comes from the rounding of cosines. */
    private static void promise21InterpolateAgain() {
        CosineSeries x = new CosineSeries();
        for (int k = 1; k <= 16; k++) {
            x.basis(k, 0);
            x.sample(0, 4);
            x.interpolate(4, 1);
            for (int i = 0; i <= 16; i++) {
                long error = x.coefficient(1, i) - (i == k ? ONE : 0);
                Checks.that("T(" + k + "), coefficient " + i, Math.abs(error) <= 12, "is off by " + error);
            }
        }
    }

    /** Both halves of a step from 2^27 to -2^27 give the same, and the value in the middle meets a cosine of 0. */
    private static long stepCoefficient() {
        long half = ONE + 2L * (1028428 + 968758 + 871859 + 741455 + 582558 + 401273 + 204567);
        long s = 2 * half * (MOST / 2);
        return Math.floorDiv(4 * s + 32L * ONE, 64L * ONE);
    }

    private static void promise22Sample() {
        CosineSeries x = new CosineSeries();
        for (int j = 0; j <= 16; j++) {
            x.setValue(j, 100 + j);
        }
        x.setCoefficient(0, 0, 5);
        x.setCoefficient(0, 1, ONE);
        due("sample", x.sample(0, 1), 3);
        due("v(0)", x.setValue(0, 0), ONE + 5);
        due("v(1)", x.setValue(1, 0), 5);
        due("v(2)", x.setValue(2, 0), 5 - ONE);
        due("v(3) stays", x.setValue(3, 103), 103);
        due("17 values", x.sample(0, 4), 17);
        due("v(5)", x.setValue(5, 0), 5 + 582558);
        due("v(16)", x.setValue(16, 0), 5 - ONE);
        Checks.fill(x, 1, MOST / 2);
        due("just not too large", x.sample(1, 0), 2);
        due("the largest", x.setValue(0, 3), MOST / 2);
        Checks.fill(x, 1, 1, -MOST / 2);
        due("too large at the end", x.sample(1, 2), Checks.OVERFLOW);
        due("an overflow changes nothing", x.setValue(0, 3), 3);
        Checks.fill(x, 1, 1, MOST / 2);
        due("too large at the beginning", x.sample(1, 2), Checks.OVERFLOW);
        Checks.fill(x, 1, MOST / 2 + 1, 0, 0, 0, -1);
        due("too large in the middle", x.sample(1, 3), Checks.OVERFLOW);
        Checks.fill(x, 1, -MOST / 2 - 1);
        due("too small", x.sample(1, 0), Checks.OVERFLOW);
        due("a wrong argument before an overflow", x.sample(1, 5), Checks.INVALID);
    }

    private static void promise23Misfit() {
        CosineSeries x = with(5, ONE);
        x.sample(0, 4);
        due("none", x.misfit(0, 4), 0);
        x.setValue(16, 5 - ONE - 70);
        x.setValue(3, 871859 + 5 + 20);
        due("the greatest one", x.misfit(0, 4), 70);
        due("with fewer points", x.misfit(0, 0), Math.abs(-ONE - 1028428));
        x.setValue(16, 5 - ONE);
        due("the other one", x.misfit(0, 4), 20);
        x.setValue(1, 5 - ONE);
        x.setValue(2, MOST / 2);
        due("later values do not count", x.misfit(0, 0), 0);
        CosineSeries y = new CosineSeries();
        for (int k = 0; k <= 24; k++) {
            y.setCoefficient(0, k, MOST);
        }
        due("far above the values", y.misfit(0, 0), 25L * MOST);
        due("no such power", y.misfit(0, -1), Checks.INVALID);
    }

    private static void promise24ExtremePoint() {
        CosineSeries x = new CosineSeries();
        int[] half = {1048576, 1028428, 968758, 871859, 741455, 582558, 401273, 204567, 0};
        for (int power = 0; power <= 4; power++) {
            int n = 1 << power;
            for (int j = 0; j <= n; j++) {
                int m = 16 * j / n;
                due("point " + j + " of " + n, x.extremePoint(power, j), m <= 8 ? half[m] : -half[16 - m]);
            }
            due("too far", x.extremePoint(power, n + 1), Checks.INVALID);
            due("below 0", x.extremePoint(power, -1), Checks.INVALID);
        }
        due("no such power", x.extremePoint(5, 0), Checks.INVALID);
    }

    private static void promise25Root() {
        CosineSeries x = new CosineSeries();
        x.basis(1, 0);
        due("number for T(1)", x.root(0, -1), 2);
        due("first", x.root(0, 0), -24);
        due("second", x.root(0, 1), 8);
        due("third", x.root(0, 2), Checks.MISSING);
        due("far away", x.root(0, Integer.MAX_VALUE), Checks.MISSING);
        due("no such index", x.root(0, -2), Checks.INVALID);
        due("no such series", x.root(8, -1), Checks.INVALID);
        Checks.fill(x, 1, 9);
        due("number for a constant of 9", x.root(1, -1), 0);
        due("none", x.root(1, 0), Checks.MISSING);
        Checks.fill(x, 1, 8);
        due("number for a constant of 8", x.root(1, -1), 24);
        due("its first", x.root(1, 0), -ONE + 8);
        due("its second", x.root(1, 1), -ONE + 40);
        due("its last", x.root(1, 23), -ONE + 8 + 23 * 32);
        due("no more", x.root(1, 24), Checks.MISSING);
    }

    /** Roots at the ends of the whole interval, and just beyond: the slack of a series of degree 1 is 16. */
    private static void promise25RootEnds() {
        CosineSeries x = with(-ONE, ONE);
        due("number for x - 1", x.root(0, -1), 1);
        due("at the right end", x.root(0, 0), ONE - 24);
        Checks.fill(x, 0, ONE, ONE);
        due("number for x + 1", x.root(0, -1), 1);
        due("at the left end", x.root(0, 0), -ONE + 8);
        Checks.fill(x, 0, ONE + 17, ONE);
        due("number for x + 1 and a bit", x.root(0, -1), 0);
        Checks.fill(x, 0, ONE + 16, ONE);
        due("number for x + 1 and less", x.root(0, -1), 1);
        x.setCoefficient(1, 24, MOST);
        due("the steepest one", x.root(1, -1), 24);
    }

    private static void promise26Intervals() {
        CosineSeries x = with(9);
        due("a constant", x.intervals(0), 1);
        // The 24th root lies in the 47th interval of width 16: 47 + 24 + 12 + 6 + 3 + 2 and 12 times 1.
        due("of 0", x.intervals(1), 106);
        x.basis(1, 2);
        // The first one is divided, and the two next to 0 of each of the 16 widths from 2^20 to 32.
        due("of T(1)", x.intervals(2), 1 + 2 * 33);
        x.setCoefficient(3, 0, 67443712);
        x.setCoefficient(3, 24, 67108864);
        due("the most", x.intervals(3), 2000);
        due("without a root", x.root(3, -1), 0);
        due("no such series", x.intervals(-1), Checks.INVALID);
    }

    private static void promise27Greatest() {
        CosineSeries x = with(ONE / 2, 0, -ONE / 2);
        due("1 - x * x", x.greatest(0), ONE);
        Checks.fill(x, 0, ONE / 2, 0, ONE / 2);
        due("x * x", x.greatest(0), ONE);
        // -4 x^3 + 3.5 x has its greatest value within, 1.260144, where its derivative's last roots are.
        Checks.fill(x, 0, 0, ONE / 2, 0, -ONE);
        Checks.that("at the last roots", Math.abs(x.greatest(0) - 1321357) <= 4, "is " + x.greatest(0));
        Checks.fill(x, 0, 0, -5000);
        due("at -ONE", x.greatest(0), 5000);
        Checks.fill(x, 0, 0, 7000);
        due("at ONE", x.greatest(0), 7000);
        Checks.fill(x, 0, -3);
        due("a constant", x.greatest(0), -3);
        Checks.fill(x, 0, -5 * ONE, 0, -ONE);
        due("below 0", x.greatest(0), -4 * ONE);
        Checks.coefficients("nothing changes", x, 0, -5 * ONE, 0, -ONE);
        x.setCoefficient(1, 2, MOST / 4);
        due("the steepest derivative", x.greatest(1), MOST / 4);
        x.setCoefficient(1, 2, MOST / 4 + 1);
        due("the derivative is too large", x.greatest(1), Checks.OVERFLOW);
        due("no such series before that", x.greatest(8), Checks.INVALID);
    }
}
