/** Section "Errors" of the description: which error is returned where several apply, and what a call changes. */
public final class SectionErrorsTest {
    private static final int ONE = Checks.ONE;
    private static final int MOST = Checks.MOST;

    public static void main(String[] args) {
        invalidRatherThanNotPossible();
        invalidRatherThanOverflow();
        invalidRatherThanNotFound();
        notPossibleRatherThanOverflow();
        overflowRatherThanNotFound();
        errorsChangeNothing();
        errorsIntoSourcesChangeNothing();
        nothingIsLeftOfAnError();
        questionsChangeNothing();
        operationsChangeTheirTargetOnly();
        Checks.finish("SectionErrorsTest");
    }

    /** Series 0 is too large for nearly every operation; made by 27 calls. */
    private static CosineSeries troubled() {
        CosineSeries x = new CosineSeries();
        Checks.full(x, 0, MOST);
        x.basis(2, 1);
        x.setValue(3, 5);
        return x;
    }

    private static void is(String what, long want, Checks.Call call) {
        Checks.unchanged(what, troubled(), want, call);
    }

    private static void invalidRatherThanNotPossible() {
        Checks.about("Errors, \"INVALID_ARGUMENT is returned rather than NOT_POSSIBLE\"");
        is("multiply, possible arguments", Checks.IMPOSSIBLE, y -> y.multiply(0, 0, 1));
        is("multiply, into", Checks.INVALID, y -> y.multiply(0, 0, 8));
        is("multiply, into below 0", Checks.INVALID, y -> y.multiply(0, 0, -1));
        is("multiply, a", Checks.INVALID, y -> y.multiply(8, 0, 1));
        is("multiply, b", Checks.INVALID, y -> y.multiply(0, -1, 1));
        is("antidifferentiate, possible arguments", Checks.IMPOSSIBLE, y -> y.antidifferentiate(0, 1));
        is("antidifferentiate, into", Checks.INVALID, y -> y.antidifferentiate(0, 8));
        is("antidifferentiate, from", Checks.INVALID, y -> y.antidifferentiate(-1, 1));
        CosineSeries x = Checks.with(0, 0, 0, ONE);
        x.basis(9, 1);
        Checks.unchanged("compose, possible arguments", x, Checks.IMPOSSIBLE, y -> y.compose(0, 1, 2));
        Checks.due("compose, into", x.compose(0, 1, 8), Checks.INVALID);
        Checks.due("compose, f", x.compose(-1, 1, 2), Checks.INVALID);
        Checks.due("compose, g", x.compose(0, 8, 2), Checks.INVALID);
    }

    private static void invalidRatherThanOverflow() {
        Checks.about("Errors, \"INVALID_ARGUMENT is returned rather than\" OVERFLOW");
        is("add, possible arguments", Checks.OVERFLOW, y -> y.add(0, 2, 0, 1, 1));
        is("add, into", Checks.INVALID, y -> y.add(0, 2, 0, 1, 8));
        is("add, a", Checks.INVALID, y -> y.add(-1, 2, 0, 1000, 1));
        is("add, b", Checks.INVALID, y -> y.add(0, 2, 8, 1, 1));
        is("add, fa", Checks.INVALID, y -> y.add(0, 1001, 0, 1, 1));
        is("add, fb", Checks.INVALID, y -> y.add(0, 2, 0, -1001, 1));
        is("differentiate, possible arguments", Checks.OVERFLOW, y -> y.differentiate(0, 1));
        is("differentiate, into", Checks.INVALID, y -> y.differentiate(0, -1));
        is("compose, possible arguments", Checks.OVERFLOW, y -> y.compose(0, 0, 1));
        is("compose, into", Checks.INVALID, y -> y.compose(0, 0, 8));
        is("divide, possible arguments", Checks.OVERFLOW, y -> y.divide(0, ONE, 1));
        is("divide, r", Checks.INVALID, y -> y.divide(0, ONE + 1, 1));
        is("divide, r below", Checks.INVALID, y -> y.divide(0, -ONE - 1, 1));
        is("divide, into", Checks.INVALID, y -> y.divide(0, ONE, 8));
        is("divide, from", Checks.INVALID, y -> y.divide(8, ONE, 1));
        is("sample, possible arguments", Checks.OVERFLOW, y -> y.sample(0, 4));
        is("sample, power", Checks.INVALID, y -> y.sample(0, 5));
        is("sample, power below 0", Checks.INVALID, y -> y.sample(0, -1));
        is("greatest, possible arguments", Checks.OVERFLOW, y -> y.greatest(0));
        is("greatest, series", Checks.INVALID, y -> y.greatest(8));
    }

    private static void invalidRatherThanNotFound() {
        Checks.about("Errors, \"INVALID_ARGUMENT is returned rather than\" NOT_FOUND");
        is("byValue, above the degree", Checks.MISSING, y -> y.byValue(1, 3));
        is("byValue, the greatest place", Checks.MISSING, y -> y.byValue(1, 24));
        is("byValue, above every degree", Checks.INVALID, y -> y.byValue(1, 25));
        is("byValue, a place below 0", Checks.INVALID, y -> y.byValue(1, -1));
        is("byValue, no such series", Checks.INVALID, y -> y.byValue(8, 24));
        is("root, none", Checks.MISSING, y -> y.root(1, 24));
        is("root, no such series", Checks.INVALID, y -> y.root(8, 24));
        is("root, an index below -1", Checks.INVALID, y -> y.root(1, -2));
        is("root, both wrong", Checks.INVALID, y -> y.root(-1, -2));
    }

    /** C(1) is (2 * 2^28 + 2) / 2, and C(25) is 2^28 / 50. */
    private static void notPossibleRatherThanOverflow() {
        Checks.about("Errors, \"NOT_POSSIBLE rather than OVERFLOW\"");
        is("multiply", Checks.IMPOSSIBLE, y -> y.multiply(0, 0, 1));
        CosineSeries x = Checks.with(MOST, 0, -2);
        Checks.unchanged("antidifferentiate, C(1) too large", x, Checks.OVERFLOW, y -> y.antidifferentiate(0, 1));
        x = Checks.with(MOST, 0, -2);
        x.setCoefficient(0, 24, MOST);
        Checks.unchanged("antidifferentiate, C(25) as well", x, Checks.IMPOSSIBLE, y -> y.antidifferentiate(0, 1));
        x = Checks.with(MOST);
        x.setCoefficient(0, 12, ONE);
        Checks.unchanged("multiply, too large", x, Checks.OVERFLOW, y -> y.multiply(0, 0, 1));
        x = Checks.with(MOST);
        x.setCoefficient(0, 13, ONE);
        Checks.unchanged("multiply, the degree as well", x, Checks.IMPOSSIBLE, y -> y.multiply(0, 0, 1));
    }

    /** The calls that answer NOT_FOUND have no OVERFLOW, so a series of 2^28 each still has its order and roots. */
    private static void overflowRatherThanNotFound() {
        Checks.about("Errors, \"OVERFLOW rather than NOT_FOUND\"");
        is("greatest of a series with an overflow", Checks.OVERFLOW, y -> y.greatest(0));
        is("byValue has no overflow", 24, y -> y.byValue(0, 24));
        is("root has no overflow", Checks.MISSING, y -> y.root(0, 24));
    }

    private static void errorsChangeNothing() {
        Checks.about("Errors, \"A call that returns an error changes nothing\"");
        is("setCoefficient, k", Checks.INVALID, y -> y.setCoefficient(1, 25, 3));
        is("setCoefficient, value", Checks.INVALID, y -> y.setCoefficient(1, 0, MOST + 1));
        is("copy, from", Checks.INVALID, y -> y.copy(8, 1));
        is("copy, into", Checks.INVALID, y -> y.copy(0, 8));
        is("add", Checks.OVERFLOW, y -> y.add(0, -1, 1, 1000, 1));
        is("multiply", Checks.IMPOSSIBLE, y -> y.multiply(0, 1, 7));
        is("differentiate", Checks.OVERFLOW, y -> y.differentiate(0, 7));
        is("antidifferentiate", Checks.IMPOSSIBLE, y -> y.antidifferentiate(0, 7));
        is("compose", Checks.OVERFLOW, y -> y.compose(1, 0, 7));
        is("divide", Checks.OVERFLOW, y -> y.divide(0, 0, 7));
        is("cut", Checks.INVALID, y -> y.cut(0, -1));
        is("basis", Checks.INVALID, y -> y.basis(25, 1));
        is("setValue, j", Checks.INVALID, y -> y.setValue(17, 3));
        is("setValue, value", Checks.INVALID, y -> y.setValue(3, Checks.MOST_VALUE + 1));
        is("setValue, value below", Checks.INVALID, y -> y.setValue(3, -Checks.MOST_VALUE - 1));
        is("interpolate", Checks.INVALID, y -> y.interpolate(5, 1));
        is("sample", Checks.OVERFLOW, y -> y.sample(0, 2));
    }

    /** The same with a target that is a source, which would be spoilt if the result were made in its place. */
    private static void errorsIntoSourcesChangeNothing() {
        Checks.about("Errors, \"A call that returns an error changes nothing\", into a source");
        is("add into a", Checks.OVERFLOW, y -> y.add(0, 2, 1, 1, 0));
        is("add into b", Checks.OVERFLOW, y -> y.add(1, 1, 0, 2, 0));
        is("multiply into a and b", Checks.IMPOSSIBLE, y -> y.multiply(0, 0, 0));
        is("multiply into b", Checks.IMPOSSIBLE, y -> y.multiply(0, 1, 1));
        is("differentiate", Checks.OVERFLOW, y -> y.differentiate(0, 0));
        is("antidifferentiate", Checks.IMPOSSIBLE, y -> y.antidifferentiate(0, 0));
        is("compose into f and g", Checks.OVERFLOW, y -> y.compose(0, 0, 0));
        is("compose into f", Checks.OVERFLOW, y -> y.compose(1, 0, 1));
        is("divide", Checks.OVERFLOW, y -> y.divide(0, -ONE, 0));
        is("sample", Checks.OVERFLOW, y -> y.sample(0, 4));
    }

    /** Calls that follow an error answer as if it had not been. */
    private static void nothingIsLeftOfAnError() {
        Checks.about("Errors, \"A call that returns an error changes nothing\", not even what the next call makes");
        CosineSeries x = troubled();
        x.setCoefficient(2, 0, 7);
        x.setCoefficient(2, 1, 8);
        x.multiply(0, 0, 3);
        x.compose(0, 0, 3);
        x.antidifferentiate(0, 3);
        x.divide(0, 5, 3);
        x.greatest(0);
        Checks.due("add", x.add(2, 1, 2, 1, 3), 1);
        Checks.coefficients("add", x, 3, 14, 16);
        x.compose(0, 0, 3);
        Checks.due("differentiate", x.differentiate(2, 3), 0);
        Checks.coefficients("differentiate", x, 3, 8);
        x.multiply(0, 0, 3);
        Checks.due("antidifferentiate", x.antidifferentiate(2, 3), 2);
        Checks.coefficients("antidifferentiate", x, 3, 5, 7, 2);
        x.multiply(0, 0, 3);
        Checks.due("divide", x.divide(2, 0, 3), 7);
        Checks.coefficients("divide", x, 3, 8);
        x.compose(0, 0, 3);
        Checks.due("compose", x.compose(1, 1, 4), 4);
        Checks.coefficients("compose", x, 4, 0, 0, 0, 0, ONE);
        x.multiply(0, 0, 3);
        Checks.due("interpolate", x.interpolate(0, 5), 0);
        Checks.coefficients("interpolate", x, 5, 0);
    }

    private static void questionsChangeNothing() {
        Checks.about("Errors and Not promised, a call that asks changes nothing");
        is("coefficient", MOST, y -> y.coefficient(0, 24));
        is("degree", 24, y -> y.degree(0));
        is("value", 25L * MOST, y -> y.value(0, ONE));
        is("inner", 26L << 36, y -> y.inner(0, 0));
        is("bound", 25L * MOST, y -> y.bound(0));
        is("degreeWith", 21, y -> y.degreeWith(0, 1000000000));
        is("byValue", 2, y -> y.byValue(0, 2));
        is("misfit", 25L * MOST, y -> y.misfit(0, 1));
        is("extremePoint", 0, y -> y.extremePoint(4, 8));
        is("integral", -699051, y -> y.integral(1));
        is("root", 2, y -> y.root(1, -1));
        is("intervals", 95, y -> y.intervals(1));
        is("greatest", ONE, y -> y.greatest(1));
        is("cut by 0", 0, y -> y.cut(0, 0));
        is("copy onto itself", 24, y -> y.copy(0, 0));
        is("setCoefficient to what it is", 24, y -> y.setCoefficient(0, 24, MOST));
        is("setValue to what it is", 5, y -> y.setValue(3, 5));
    }

    private static void operationsChangeTheirTargetOnly() {
        Checks.about("Operations, what goes into a series changes that series only");
        changes("setCoefficient", 5, y -> y.setCoefficient(5, 3, 9));
        changes("copy", 5, y -> y.copy(1, 5));
        changes("add", 5, y -> y.add(1, 3, 2, -1, 5));
        changes("multiply", 5, y -> y.multiply(1, 2, 5));
        changes("differentiate", 5, y -> y.differentiate(1, 5));
        changes("antidifferentiate", 5, y -> y.antidifferentiate(1, 5));
        changes("compose", 5, y -> y.compose(1, 2, 5));
        changes("divide", 5, y -> y.divide(1, 77, 5));
        changes("cut", 1, y -> y.cut(1, ONE));
        changes("basis", 5, y -> y.basis(5, 5));
        changes("interpolate", 5, y -> y.interpolate(4, 5));
        changes("setValue", 8, y -> y.setValue(16, 4));
        changes("sample", 8, y -> y.sample(1, 2));
    }

    /** The 8 stands for the values for interpolation, which come behind the series in a state. */
    private static void changes(String what, int target, Checks.Call call) {
        CosineSeries x = Checks.with(1, 2, 3);
        Checks.fill(x, 1, 4 * ONE, 0, ONE);
        Checks.fill(x, 2, ONE, 2 * ONE);
        Checks.fill(x, 5, 7);
        x.setValue(2, 100);
        long[] before = Checks.state(x);
        long answer = call.on(x);
        Checks.that(what, answer > -9000000000000000000L, "answered " + answer);
        long[] after = Checks.lastState(x);
        boolean isTargetChanged = false;
        for (int i = 0; i < before.length; i++) {
            if (Math.min(i / 26, 8) == target) {
                isTargetChanged |= before[i] != after[i];
            } else {
                Checks.due(what + ", place " + i + " of the state", after[i], before[i]);
            }
        }
        Checks.that(what, isTargetChanged, "changed nothing");
    }
}
