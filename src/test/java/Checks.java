/** Counts the checks of one test class and ends it with exit code 1 if one of them failed. */
final class Checks {
    static final long INVALID = -9000000000000000001L;
    static final long IMPOSSIBLE = -9000000000000000002L;
    static final long OVERFLOW = -9000000000000000003L;
    static final long MISSING = -9000000000000000004L;

    private static final int MOST_LINES = 50;
    private static int passed = 0;
    private static int failed = 0;

    private Checks() {
    }

    static void due(String what, long got, long want) {
        that(what, got == want, "answered " + got + ", due is " + want);
    }

    static void that(String what, boolean holds, String otherwise) {
        if (holds) {
            passed++;
            return;
        }
        failed++;
        if (failed <= MOST_LINES) {
            System.out.println(what + ": " + otherwise);
        }
    }

    static void finish(String test) {
        System.out.println(test + ": " + passed + " checks passed, " + failed + " failed");
        System.exit(failed == 0 && passed > 0 ? 0 : 1);
    }

    /** Makes a series with these coefficients, from index 0 on. */
    static void fill(CosineSeries x, int series, int... coefficients) {
        x.basis(0, series);
        for (int k = 0; k < coefficients.length; k++) {
            x.setCoefficient(series, k, coefficients[k]);
        }
    }

    /** Tells whether a series has just these coefficients, from index 0 on. */
    static void coefficients(String what, CosineSeries x, int series, long... want) {
        due(what + ": degree", x.degree(series), want.length - 1);
        for (int k = 0; k <= 24; k++) {
            due(what + ": coefficient " + k, x.coefficient(series, k), k < want.length ? want[k] : 0);
        }
    }
}
