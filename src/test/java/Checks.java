import java.util.Arrays;

/** Counts the checks of one test class and ends it with exit code 1 if one of them failed. */
final class Checks {
    static final int ONE = 1048576;
    /** The greatest absolute value of a coefficient. */
    static final int MOST = 268435456;
    /** The greatest absolute value for interpolation. */
    static final int MOST_VALUE = 134217728;

    static final long INVALID = -9000000000000000001L;
    static final long IMPOSSIBLE = -9000000000000000002L;
    static final long OVERFLOW = -9000000000000000003L;
    static final long MISSING = -9000000000000000004L;

    private static final int MOST_LINES = 50;
    private static int passed = 0;
    private static int failed = 0;
    private static String sentence = "";

    interface Call {
        long on(CosineSeries x);
    }

    private Checks() {
    }

    /** Names the document's section or promise, and its sentence, that the next checks are for. */
    static void about(String text) {
        sentence = text + ": ";
    }

    static void due(String what, long got, long want) {
        that(what, got == want, "answered " + got + ", due is " + want);
    }

    static void that(String what, boolean holds, String otherwise) {
        if (holds) {
            passed++;
            return;
        }
        failed++;
        if (failed <= MOST_LINES) {
            System.out.println(sentence + what + ": " + otherwise);
        }
    }

    static void finish(String test) {
        System.out.println(test + ": " + passed + " checks passed, " + failed + " failed");
        System.exit(failed == 0 && passed > 0 ? 0 : 1);
    }

    /** A new object whose series 0 has these coefficients, from index 0 on. */
    static CosineSeries with(int... coefficients) {
        CosineSeries x = new CosineSeries();
        fill(x, 0, coefficients);
        return x;
    }

    /** Makes a series with these coefficients, from index 0 on. */
    static void fill(CosineSeries x, int series, int... coefficients) {
        x.basis(0, series);
        for (int k = 0; k < coefficients.length; k++) {
            x.setCoefficient(series, k, coefficients[k]);
        }
    }

    /** Makes a series that has these coefficients, told as index, coefficient, index, coefficient and so on. */
    static void sparse(CosineSeries x, int series, int... pairs) {
        fill(x, series, 0);
        for (int i = 0; i + 1 < pairs.length; i += 2) {
            x.setCoefficient(series, pairs[i], pairs[i + 1]);
        }
    }

    /** Makes a series of degree 24 whose coefficients are all the same. */
    static void full(CosineSeries x, int series, int coefficient) {
        for (int k = 24; k >= 0; k--) {
            x.setCoefficient(series, k, coefficient);
        }
    }

    /** Tells whether a series has just these coefficients, from index 0 on. */
    static void coefficients(String what, CosineSeries x, int series, long... want) {
        due(what + ": degree", x.degree(series), want.length - 1);
        for (int k = 0; k <= 24; k++) {
            due(what + ": coefficient " + k, x.coefficient(series, k), k < want.length ? want[k] : 0);
        }
    }

    /** All that can be seen of an object; the values for interpolation are put back. This takes 242 calls. */
    static long[] state(CosineSeries x) {
        long[] state = lastState(x);
        for (int j = 0; j <= 16; j++) {
            x.setValue(j, (int) state[8 * 26 + j]);
        }
        return state;
    }

    /** The same, but values for interpolation can only be seen by setting others, and are 0 then: 225 calls. */
    static long[] lastState(CosineSeries x) {
        long[] state = new long[8 * 26 + 17];
        int place = 0;
        for (int i = 0; i < 8; i++) {
            state[place++] = x.degree(i);
            for (int k = 0; k <= 24; k++) {
                state[place++] = x.coefficient(i, k);
            }
        }
        for (int j = 0; j <= 16; j++) {
            state[place++] = x.setValue(j, 0);
        }
        return state;
    }

    /**
     * The last call of an object: one that must answer this and change nothing. It takes 468 calls with both looks
     * at the state, and an object is used for 512, so at most 44 others go before.
     */
    static void unchanged(String what, CosineSeries x, long want, Call call) {
        long[] before = state(x);
        due(what, call.on(x), want);
        that(what, Arrays.equals(before, lastState(x)), "changed something");
    }
}
