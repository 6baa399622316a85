/**
 * Section "Roots" of the description, and the promises 25 to 27. Where a number of intervals could not be worked out
 * by hand, it was counted by a recursion written apart from the program and without the limits of 24 and 2000.
 */
public final class SectionRootsTest {
    private static final int ONE = Checks.ONE;
    private static final int MOST = Checks.MOST;

    public static void main(String[] args) {
        freeOnlyIfGreater();
        slackGrowsWithTheDegree();
        indicesAreSquared();
        stepsOfTheHalfWidth();
        slopesOf2To28();
        rootsAtTheEnds();
        widthOf16();
        latestRootNear();
        leftBeforeRight();
        roots23And24();
        roots24EndTheSearch();
        intervals1999And2001();
        rootInInterval2000();
        rootInInterval2001();
        bothEndsAtOnce();
        indexOfARoot();
        greatestAtTheEndsAndRoots();
        greatestOfDegree0And1();
        greatestOnlyAtRootsFound();
        greatestWithADerivativeTooLarge();
        Checks.finish("SectionRootsTest");
    }

    private static CosineSeries sparse(int... pairs) {
        CosineSeries x = new CosineSeries();
        Checks.sparse(x, 0, pairs);
        return x;
    }

    private static void search(String what, CosineSeries x, long roots, long intervals) {
        Checks.due(what + ", roots", x.root(0, -1), roots);
        Checks.due(what + ", intervals", x.intervals(0), intervals);
    }

    // ---- intervals that are free of roots

    private static void freeOnlyIfGreater() {
        Checks.about("Roots, \"is greater than (D * h / ONE rounded) + 8 * (n + 1), the interval is free\"");
        search("9 against 8", Checks.with(9), 0, 1);
        search("-9 against 8", Checks.with(-9), 0, 1);
        search("8 against 8", Checks.with(8), 24, 106);
        search("-8 against 8", Checks.with(-8), 24, 106);
        search("22 against 5 + 16", Checks.with(22, 5), 0, 1);
        search("-22 against 5 + 16", Checks.with(-22, -5), 0, 1);
        search("21 against 5 + 16", Checks.with(21, 5), 24, 106);
        search("-21 against 5 + 16", Checks.with(-21, -5), 24, 106);
    }

    private static void slackGrowsWithTheDegree() {
        Checks.about("Roots, \"8 * (n + 1)\", with n = 24");
        // At 0 it is c(0) + 1, and D = 576.
        search("777 against 576 + 200", sparse(0, 776, 24, 1), 0, 1);
        search("776 against 576 + 200", sparse(0, 775, 24, 1), 0, 3);
    }

    private static void indicesAreSquared() {
        Checks.about("Roots, \"D the sum of k * k * |c(k)| over all k\"");
        // At 0 it is c(0) - 3, and D = 12; both halves are 38 against 6 + 24.
        search("37 against 12 + 24", Checks.with(40, 0, 3), 0, 1);
        search("36 against 12 + 24", Checks.with(39, 0, 3), 0, 3);
        // D = 2 + 12 + 45 = 59, 4 * 8 = 32, and at 0 it is c(0) + 3.
        search("92 against 59 + 32", Checks.with(89, -2, -3, 5), 0, 1);
        Checks.that("91 against 59 + 32", Checks.with(88, -2, -3, 5).intervals(0) > 1, "is free");
        Checks.that("c(0) does not count in D", Checks.with(MOST, 5).intervals(0) == 1, "is not free");
    }

    /**
     * The series -16 + T(1) is -16 up to just below ONE / 2, and -17 below -ONE / 2; D is 1. From -ONE to 0 it is
     * -16 against 1 + 16, then -17 against 16: free. From -ONE / 2 on it is full of roots: 104 intervals give 24.
     */
    private static void stepsOfTheHalfWidth() {
        Checks.about("Roots, \"h the greater one of b - m and m - a\"");
        CosineSeries x = Checks.with(-16, 1);
        search("-16 + T(1)", x, 24, 1 + 1 + 1 + 104);
        Checks.due("-16 + T(1), the first root", x.root(0, 0), -ONE / 2 + 8);
    }

    private static void slopesOf2To28() {
        Checks.about("Roots, coefficients of 2^28 each: D * h does not wrap around");
        CosineSeries x = new CosineSeries();
        Checks.full(x, 0, MOST);
        Checks.that("the first interval", x.intervals(0) > 1, "is free");
        // D is 4900 * 2^28, so an interval of the width 16 around a value of 2^28 has a bound of 0.04 * 2^28.
        long roots = x.root(0, -1);
        Checks.due("a root", roots > 0 ? 1 : 0, 1);
        for (int i = 0; i < roots; i++) {
            int root = (int) x.root(0, i);
            Checks.that("root " + root, Math.abs(x.value(0, root)) <= MOST / 20, "is far from 0");
        }
    }

    private static void rootsAtTheEnds() {
        Checks.about("Roots, \"beginning with the interval from -ONE to ONE\"");
        // The slope is 1, so an interval of the width 16 is free if its middle is more than 8 + 16 from the root.
        CosineSeries x = Checks.with(-ONE, ONE);
        search("x - 1", x, 1, 35);
        Checks.due("x - 1", x.root(0, 0), ONE - 24);
        x = Checks.with(ONE, ONE);
        search("x + 1", x, 1, 35);
        Checks.due("x + 1", x.root(0, 0), -ONE + 8);
        search("x + 1 and 16 more", Checks.with(ONE + 16, ONE), 1, 35);
        search("x + 1 and 17 more", Checks.with(ONE + 17, ONE), 0, 1);
        search("x - 1 and 16 less", Checks.with(-ONE - 16, ONE), 1, 35);
        search("x - 1 and 17 less", Checks.with(-ONE - 17, ONE), 0, 1);
    }

    // ---- single roots

    private static void widthOf16() {
        Checks.about("Roots, \"if b - a is at most 16, the interval gives one root, m\"");
        CosineSeries x = Checks.with(0);
        Checks.due("the first one, from -ONE to -ONE + 16", x.root(0, 0), -ONE + 8);
        // 18 widths from 2^21 to 16 lead to the first root; the interval next to it, the 19th, gives none.
        for (int i = 0; i < 24; i++) {
            Checks.due("every other interval of the width 16 gives root " + i, x.root(0, i), -ONE + 8 + 32 * i);
        }
        Checks.fill(x, 0, 0, ONE);
        search("x", x, 2, 67);
    }

    /**
     * A root is 8 above a multiple of 16, and a - 16 is one, so "at least a - 16" and "a - 16 exactly" never meet;
     * the nearest cases are a latest root at a - 8 (it is at least a - 16) and one at a - 24 (it is not).
     */
    private static void latestRootNear() {
        Checks.about("Roots, \"unless the latest root found is at least a - 16\"");
        // The intervals around -24, -8, 8 and 24 are not free: -8 and 24 lie in intervals next to a root's.
        CosineSeries x = Checks.with(0, ONE);
        Checks.due("x, number", x.root(0, -1), 2);
        Checks.due("x, -24", x.root(0, 0), -24);
        Checks.due("x, 8: the latest root is at a - 24", x.root(0, 1), 8);
        // 35 intervals around 0 are not free, from m = -280 to m = 264.
        Checks.fill(x, 0, 0, ONE / 16);
        Checks.due("x / 16, number", x.root(0, -1), 18);
        for (int i = 0; i < 18; i++) {
            Checks.due("x / 16, root " + i, x.root(0, i), -280 + 32 * i);
        }
        // T(3) has a root of its own on each side, far from the latest one.
        Checks.fill(x, 0, 0, 0, 0, ONE);
        search("T(3)", x, 4, 215);
        Checks.due("T(3), first", x.root(0, 0), -908104);
        Checks.due("T(3), last", x.root(0, 3), 908088);
    }

    private static void leftBeforeRight() {
        Checks.about("Roots, \"first the interval from a to m, then that from m to b\"");
        for (int k = 1; k <= 24; k++) {
            CosineSeries x = new CosineSeries();
            x.basis(k, 0);
            long latest = -ONE - 1;
            long number = x.root(0, -1);
            Checks.that("T(" + k + ")", number > 0, "has no root");
            for (int i = 0; i < number; i++) {
                long root = x.root(0, i);
                Checks.that("T(" + k + "), root " + i, root >= latest + 32, "is " + root + " after " + latest);
                latest = Math.max(latest, root);
            }
        }
    }

    // ---- the ends of the search

    private static void roots23And24() {
        Checks.about("Roots, \"The search ends when 24 roots have been found\": 23 and 24");
        CosineSeries x = Checks.with(0, 46015);
        search("23 roots", x, 23, 143);
        Checks.due("23 roots, the last one", x.root(0, 22), 344);
        Checks.due("23 roots, no more", x.root(0, 23), Checks.MISSING);
        Checks.fill(x, 0, 0, 46014);
        Checks.due("the slope of 23 roots and no less", x.root(0, -1), 24);
        Checks.due("24 roots, the last one", x.root(0, 23) - x.root(0, 0), 32 * 23);
        Checks.due("24 roots, no more", x.root(0, 24), Checks.MISSING);
    }

    /** The 24th root of 0 lies in the 47th interval of the width 16: 47 + 24 + 12 + 6 + 3 + 2 and 12 times 1. */
    private static void roots24EndTheSearch() {
        Checks.about("Roots, \"The search ends when 24 roots have been found\"");
        CosineSeries x = Checks.with(0);
        search("0", x, 24, 106);
        Checks.due("0, the last one", x.root(0, 23), -ONE + 8 + 23 * 32);
        Checks.due("0, no more", x.root(0, 24), Checks.MISSING);
        x = sparse(1, 17);
        search("17 x", x, 24, 107);
        Checks.due("17 x, the first one", x.root(0, 0), -1015800);
        Checks.due("17 x, the last one", x.root(0, 23), -1015064);
    }

    private static void intervals1999And2001() {
        Checks.about("Roots, \"or 2000 intervals have been looked at\": 1999, which is all, and 2001, which are too many");
        search("1999 of 1999", sparse(0, 16578, 9, 16384), 0, 1999);
        search("1999 of 1999, large", sparse(0, 69893387, 14, 67108864), 0, 1999);
        search("2000 of 2001", sparse(0, 4185, 8, 4096), 0, 2000);
        search("2000 of 2001, large", sparse(0, 16820437, 7, 16777216), 0, 2000);
        search("2000 of many", sparse(0, 67443712, 24, 67108864), 0, 2000);
    }

    private static void rootInInterval2000() {
        Checks.about("Roots, the 2000th interval is looked at: it gives a root");
        CosineSeries x = sparse(0, 8212, 1, -225, 15, 8192);
        search("the 20th root", x, 20, 2000);
        Checks.due("the 20th root", x.root(0, 19), -330840);
        Checks.due("a 21st root", x.root(0, 20), Checks.MISSING);
        x = sparse(0, 17263657, 1, -2433014, 18, 16777216);
        search("the 18th root", x, 18, 2000);
        Checks.due("the 18th root", x.root(0, 17), 347784);
    }

    private static void rootInInterval2001() {
        Checks.about("Roots, the 2001st interval is not looked at: its root is not found");
        CosineSeries x = sparse(0, 4239, 1, -485, 19, 4096);
        search("a 4th root", x, 3, 2000);
        Checks.due("the 3rd root", x.root(0, 2), 76936);
        Checks.due("a 4th root", x.root(0, 3), Checks.MISSING);
        search("a 6th root", sparse(0, 4230562, 1, -529340, 19, 4194304), 5, 2000);
    }

    private static void bothEndsAtOnce() {
        Checks.about("Roots, the 24th root in the 2000th interval");
        CosineSeries x = sparse(0, 67744, 1, -14822, 21, 65536);
        search("both", x, 24, 2000);
        Checks.due("the 24th root", x.root(0, 23), 224168);
    }

    private static void indexOfARoot() {
        Checks.about("Promise 25, \"NOT_FOUND if there are not so many\"");
        for (int index : new int[] {0, 1, 23, 24, 25, Integer.MAX_VALUE}) {
            Checks.unchanged("no root, index " + index, Checks.with(9), Checks.MISSING, y -> y.root(0, index));
        }
        for (int index : new int[] {24, 25, 2000, Integer.MAX_VALUE}) {
            Checks.unchanged("24 roots, index " + index, Checks.with(0), Checks.MISSING, y -> y.root(0, index));
        }
        for (int index : new int[] {-2, -3, Integer.MIN_VALUE}) {
            Checks.unchanged("index " + index, Checks.with(0), Checks.INVALID, y -> y.root(0, index));
        }
        Checks.unchanged("number of no roots", Checks.with(9), 0, y -> y.root(0, -1));
        Checks.unchanged("number of 24 roots", Checks.with(0), 24, y -> y.root(0, -1));
        Checks.unchanged("the last one of 24", Checks.with(0), -ONE + 8 + 23 * 32, y -> y.root(0, 23));
    }

    // ---- greatest

    private static void greatestAtTheEndsAndRoots() {
        Checks.about("Promise 27, \"the values of a series at -ONE, ONE and all roots of its derivative\"");
        Checks.due("at -ONE", Checks.with(3, -5000).greatest(0), 5003);
        Checks.due("at ONE", Checks.with(3, 7000).greatest(0), 7003);
        Checks.due("at both", Checks.with(0, 0, ONE).greatest(0), ONE);
        // T(2) turned has 1 at 0; its derivative -4 x has the roots -16 and 16 or so, where it is still ONE.
        Checks.due("between", Checks.with(0, 0, -ONE).greatest(0), ONE);
        Checks.due("below 0", Checks.with(-3 * ONE, 0, -ONE).greatest(0), -2 * ONE);
        // -4 x^3 + 3.5 x is greatest at the later root, and turned at the earlier one: 7 / 3 * sqrt(7 / 24).
        long later = Checks.with(0, ONE / 2, 0, -ONE).greatest(0);
        Checks.that("at the later root", Math.abs(later - 1321357) <= 4, "is " + later);
        long earlier = Checks.with(0, -ONE / 2, 0, ONE).greatest(0);
        Checks.that("at the earlier root", Math.abs(earlier - 1321357) <= 4, "is " + earlier);
    }

    private static void greatestOfDegree0And1() {
        Checks.about("Promise 27, a derivative that is 0 or has the degree 0");
        for (int c : new int[] {0, 1, -1, MOST, -MOST}) {
            Checks.unchanged("constant " + c, Checks.with(c), c, y -> y.greatest(0));
        }
        Checks.unchanged("of degree 1", Checks.with(-MOST, MOST), 0, y -> y.greatest(0));
        Checks.unchanged("of degree 1, turned", Checks.with(-MOST, -MOST), 0, y -> y.greatest(0));
        Checks.unchanged("of degree 1, flat", Checks.with(5, 8), 13, y -> y.greatest(0));
    }

    /** The derivative -16 x of -4 T(2) is nowhere free, so its 24 roots lie next to -ONE, and the 4 at 0 is not seen. */
    private static void greatestOnlyAtRootsFound() {
        Checks.about("Promise 27, \"all roots\" are those that are found, 24 at most");
        CosineSeries x = Checks.with(0, 0, -4);
        Checks.due("at 0", x.value(0, 0), 4);
        Checks.due("-4 T(2)", x.greatest(0), -4);
        x.differentiate(0, 1);
        Checks.coefficients("its derivative", x, 1, 0, -16);
        Checks.due("the last root of its derivative", x.root(1, 23), -ONE + 8 + 23 * 32);
    }

    private static void greatestWithADerivativeTooLarge() {
        Checks.about("Promise 27, \"OVERFLOW if the derivative overflows\"");
        for (int sign = -1; sign <= 1; sign += 2) {
            CosineSeries x = Checks.with(0, 0, sign * (MOST / 4));
            Checks.due("4 c(2) = 2^28", x.greatest(0), MOST / 4);
            x.setCoefficient(0, 2, sign * (MOST / 4 + 1));
            Checks.unchanged("4 c(2) = 2^28 + 4", x, Checks.OVERFLOW, y -> y.greatest(0));
            x = Checks.with(0, sign * (MOST - 3), 0, sign);
            Checks.due("d(0) = 2^28", x.greatest(0), MOST - 2);
            x = Checks.with(0, sign * (MOST - 2), 0, sign);
            Checks.unchanged("d(0) = 2^28 + 1", x, Checks.OVERFLOW, y -> y.greatest(0));
        }
        CosineSeries x = sparse(24, 5592405);
        Checks.due("48 c(24) just below 2^28", x.greatest(0), 5592405);
        x.setCoefficient(0, 24, 5592406);
        Checks.unchanged("48 c(24) above 2^28", x, Checks.OVERFLOW, y -> y.greatest(0));
        x = new CosineSeries();
        Checks.full(x, 0, MOST);
        Checks.due("of all 2^28", x.greatest(0), Checks.OVERFLOW);
        Checks.due("a degree of 24 before that is possible", x.differentiate(0, 1), Checks.OVERFLOW);
    }
}
