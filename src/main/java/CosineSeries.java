import java.util.Arrays;

/** Arithmetic of truncated Chebyshev series in fixed-point numbers; ../shared/DOC.md says what each call does. */
public final class CosineSeries {
    public static final int ONE = 1048576;
    public static final long INVALID_ARGUMENT = -9000000000000000001L;
    public static final long NOT_POSSIBLE = -9000000000000000002L;
    public static final long OVERFLOW = -9000000000000000003L;
    public static final long NOT_FOUND = -9000000000000000004L;

    private static final long NO_ERROR = 0;
    private static final int SERIES_COUNT = 8;
    private static final int MAX_DEGREE = 24;
    private static final int MAX_COEFFICIENT = 268435456;
    private static final int MAX_FACTOR = 1000;
    private static final int MAX_TOLERANCE = 1000000000;
    private static final int MAX_POWER = 4;
    private static final int MAX_POINT = 16;
    private static final int MAX_POINT_VALUE = 134217728;

    /** The cosines of pi * m / 16 for m from 0 to 8. */
    private static final int[] COSINES = {
        1048576, 1028428, 968758, 871859, 741455, 582558, 401273, 204567, 0
    };

    private final Series[] stored = new Series[SERIES_COUNT];
    private final long[] pointValues = new long[MAX_POINT + 1];
    private final RootSearch search = new RootSearch();

    /** Every operation makes its result here first, because an error must leave the target as it was. */
    private final Series made = new Series();

    /** Used by compose alone; they are fields so that no call makes objects. */
    private final Series product = new Series();
    private final Series last = new Series();
    private final Series lastButOne = new Series();

    public CosineSeries() {
        for (int i = 0; i < stored.length; i++) {
            stored[i] = new Series();
        }
    }

    // ---- series

    public long setCoefficient(int series, int k, int value) {
        Series target = find(series);
        if (target == null || isOutside(k, 0, MAX_DEGREE) || isOutside(value, -MAX_COEFFICIENT, MAX_COEFFICIENT)) {
            return INVALID_ARGUMENT;
        }
        target.put(k, value);
        target.trim();
        return target.top();
    }

    public long coefficient(int series, int k) {
        Series s = find(series);
        if (s == null || isOutside(k, 0, MAX_DEGREE)) {
            return INVALID_ARGUMENT;
        }
        return s.at(k);
    }

    public long degree(int series) {
        Series s = find(series);
        return s == null ? INVALID_ARGUMENT : s.top();
    }

    public long copy(int from, int into) {
        Series source = find(from);
        Series target = find(into);
        if (source == null || target == null) {
            return INVALID_ARGUMENT;
        }
        target.take(source);
        return target.top();
    }

    public long value(int series, int x) {
        Series s = find(series);
        if (s == null || isOutside(x, -ONE, ONE)) {
            return INVALID_ARGUMENT;
        }
        return s.valueAt(x);
    }

    // ---- operations; the result goes into a series

    public long add(int a, int fa, int b, int fb, int into) {
        Series first = find(a);
        Series second = find(b);
        Series target = find(into);
        if (first == null || second == null || target == null) {
            return INVALID_ARGUMENT;
        }
        if (isOutside(fa, -MAX_FACTOR, MAX_FACTOR) || isOutside(fb, -MAX_FACTOR, MAX_FACTOR)) {
            return INVALID_ARGUMENT;
        }
        made.becomeSum(first, fa, second, fb);
        return keepMade(target);
    }

    public long multiply(int a, int b, int into) {
        Series first = find(a);
        Series second = find(b);
        Series target = find(into);
        if (first == null || second == null || target == null) {
            return INVALID_ARGUMENT;
        }
        made.becomeProduct(first, second);
        return keepMade(target);
    }

    public long differentiate(int from, int into) {
        Series source = find(from);
        Series target = find(into);
        if (source == null || target == null) {
            return INVALID_ARGUMENT;
        }
        made.becomeDerivative(source);
        return keepMade(target);
    }

    public long antidifferentiate(int from, int into) {
        Series source = find(from);
        Series target = find(into);
        if (source == null || target == null) {
            return INVALID_ARGUMENT;
        }
        made.becomeAntiderivative(source);
        return keepMade(target);
    }

    public long compose(int f, int g, int into) {
        Series outer = find(f);
        Series inside = find(g);
        Series target = find(into);
        if (outer == null || inside == null || target == null) {
            return INVALID_ARGUMENT;
        }
        long error = makeComposition(outer, inside);
        return error != NO_ERROR ? error : keepMade(target);
    }

    public long divide(int from, int r, int into) {
        Series source = find(from);
        Series target = find(into);
        if (source == null || target == null || isOutside(r, -ONE, ONE)) {
            return INVALID_ARGUMENT;
        }
        // The target may be the source, so the remainder comes before the quotient is kept.
        long remainder = source.valueAt(r);
        made.becomeQuotient(source, r);
        long kept = keepMade(target);
        return kept < 0 ? kept : remainder;
    }

    public long cut(int series, int tolerance) {
        Series s = find(series);
        if (s == null || isOutside(tolerance, 0, MAX_TOLERANCE)) {
            return INVALID_ARGUMENT;
        }
        int before = s.top();
        s.dropAbove(s.topWithin(tolerance));
        return before - s.top();
    }

    public long basis(int k, int into) {
        Series target = find(into);
        if (target == null || isOutside(k, 0, MAX_DEGREE)) {
            return INVALID_ARGUMENT;
        }
        target.clear();
        target.put(k, ONE);
        target.trim();
        return k;
    }

    // ---- numbers

    public long integral(int series) {
        Series s = find(series);
        if (s == null) {
            return INVALID_ARGUMENT;
        }
        long sum = 2 * s.at(0);
        for (int k = 2; k <= s.top(); k += 2) {
            // Both signs are turned, for rounded wants a positive divisor.
            sum += rounded(-2 * s.at(k), (long) k * k - 1);
        }
        return sum;
    }

    public long inner(int a, int b) {
        Series first = find(a);
        Series second = find(b);
        if (first == null || second == null) {
            return INVALID_ARGUMENT;
        }
        long sum = 2 * first.at(0) * second.at(0);
        for (int k = 1; k <= MAX_DEGREE; k++) {
            sum += first.at(k) * second.at(k);
        }
        return rounded(sum, ONE);
    }

    public long bound(int series) {
        Series s = find(series);
        if (s == null) {
            return INVALID_ARGUMENT;
        }
        long sum = 0;
        for (int k = 0; k <= MAX_DEGREE; k++) {
            sum += Math.abs(s.at(k));
        }
        return sum;
    }

    public long degreeWith(int series, int tolerance) {
        Series s = find(series);
        if (s == null || isOutside(tolerance, 0, MAX_TOLERANCE)) {
            return INVALID_ARGUMENT;
        }
        return s.topWithin(tolerance);
    }

    public long byValue(int series, int place) {
        Series s = find(series);
        if (s == null || isOutside(place, 0, MAX_DEGREE)) {
            return INVALID_ARGUMENT;
        }
        for (int k = 0; k <= s.top(); k++) {
            if (s.placeOf(k) == place) {
                return k;
            }
        }
        return NOT_FOUND;
    }

    // ---- extreme points

    public long setValue(int j, int value) {
        if (isOutside(j, 0, MAX_POINT) || isOutside(value, -MAX_POINT_VALUE, MAX_POINT_VALUE)) {
            return INVALID_ARGUMENT;
        }
        long previous = pointValues[j];
        pointValues[j] = value;
        return previous;
    }

    public long interpolate(int power, int into) {
        Series target = find(into);
        if (target == null || isOutside(power, 0, MAX_POWER)) {
            return INVALID_ARGUMENT;
        }
        int n = 1 << power;
        made.clear();
        for (int k = 0; k <= n; k++) {
            int weight = k == 0 || k == n ? 1 : 2;
            made.put(k, rounded(weight * cosineSum(power, k), 2L * n * ONE));
        }
        made.trim();
        return keepMade(target);
    }

    public long sample(int series, int power) {
        Series s = find(series);
        if (s == null || isOutside(power, 0, MAX_POWER)) {
            return INVALID_ARGUMENT;
        }
        int n = 1 << power;
        for (int j = 0; j <= n; j++) {
            if (Math.abs(s.valueAt(pointAt(power, j))) > MAX_POINT_VALUE) {
                return OVERFLOW;
            }
        }
        for (int j = 0; j <= n && j < pointValues.length; j++) {
            pointValues[j] = s.valueAt(pointAt(power, j));
        }
        return n + 1;
    }

    public long misfit(int series, int power) {
        Series s = find(series);
        if (s == null || isOutside(power, 0, MAX_POWER)) {
            return INVALID_ARGUMENT;
        }
        int n = 1 << power;
        long most = 0;
        for (int j = 0; j <= n && j < pointValues.length; j++) {
            most = Math.max(most, Math.abs(s.valueAt(pointAt(power, j)) - pointValues[j]));
        }
        return most;
    }

    public long extremePoint(int power, int j) {
        if (isOutside(power, 0, MAX_POWER) || isOutside(j, 0, 1 << power)) {
            return INVALID_ARGUMENT;
        }
        return pointAt(power, j);
    }

    // ---- roots

    public long root(int series, int index) {
        Series s = find(series);
        if (s == null || index < -1) {
            return INVALID_ARGUMENT;
        }
        search.run(s);
        if (index == -1) {
            return search.count();
        }
        return index < search.count() ? search.found(index) : NOT_FOUND;
    }

    public long intervals(int series) {
        Series s = find(series);
        if (s == null) {
            return INVALID_ARGUMENT;
        }
        search.run(s);
        return search.lookedAt();
    }

    public long greatest(int series) {
        Series s = find(series);
        if (s == null) {
            return INVALID_ARGUMENT;
        }
        made.becomeDerivative(s);
        long error = made.error();
        if (error != NO_ERROR) {
            return error;
        }
        search.run(made);
        long most = Math.max(s.valueAt(-ONE), s.valueAt(ONE));
        for (int i = 0; i < search.count(); i++) {
            most = Math.max(most, s.valueAt(search.found(i)));
        }
        return most;
    }

    // ---- helpers

    /** Answers null if there is no such series. */
    private Series find(int series) {
        return series >= 0 && series < stored.length ? stored[series] : null;
    }

    private static boolean isOutside(int number, int least, int most) {
        return number < least || number > most;
    }

    /** v / n rounded, of two equally near numbers the greater one, for n above 0. */
    private static long rounded(long v, long n) {
        if (n <= 0) {
            return 0;
        }
        long below = Math.floorDiv(v, n);
        long rest = v - below * n;
        return 2 * rest >= n ? below + 1 : below;
    }

    /** The cosine of pi * m / 16, for m from 0 on. */
    private static int cosine(int m) {
        int turned = m & 31;
        int half = turned > 16 ? 32 - turned : turned;
        if (isOutside(half, 0, 16)) {
            return 0;
        }
        return half <= 8 ? COSINES[half] : -COSINES[16 - half];
    }

    private static int pointAt(int power, int j) {
        return cosine(j << (MAX_POWER - power));
    }

    /** The sum S of the coefficient k of an interpolation. */
    private long cosineSum(int power, int k) {
        int n = 1 << power;
        long sum = 0;
        for (int j = 0; j <= n && j < pointValues.length; j++) {
            int weight = j == 0 || j == n ? 1 : 2;
            sum += weight * pointValues[j] * pointAt(power, j * k);
        }
        return sum;
    }

    /** Answers the degree, or the error that leaves the target as it was. */
    private long keepMade(Series target) {
        long error = made.error();
        if (error != NO_ERROR) {
            return error;
        }
        target.take(made);
        return target.top();
    }

    private long makeComposition(Series f, Series g) {
        last.clear();
        lastButOne.clear();
        for (int k = f.top(); k >= 1; k--) {
            long error = makeStep(f.at(k), 2, g);
            if (error != NO_ERROR) {
                return error;
            }
            lastButOne.take(last);
            last.take(made);
        }
        return makeStep(f.at(0), 1, g);
    }

    /** The recurrence of a value with series in place of numbers: c + factor * g * last - lastButOne. */
    private long makeStep(long c, int factor, Series g) {
        product.becomeProduct(g, last);
        long error = product.error();
        if (error != NO_ERROR) {
            return error;
        }
        made.becomeSum(product, factor, lastButOne, -1);
        made.put(0, made.at(0) + c);
        made.trim();
        return made.error();
    }

    /**
     * Coefficients and their degree. There is room for a product of two series of the highest degree, which may
     * turn out to be possible when it is trimmed. All coefficients above the degree are 0.
     */
    private static final class Series {
        private final long[] terms = new long[2 * MAX_DEGREE + 1];
        private int top;

        int top() {
            return top;
        }

        long at(int k) {
            return k >= 0 && k < terms.length ? terms[k] : 0;
        }

        /** A trim must follow before the degree is asked for. */
        void put(int k, long term) {
            if (k >= 0 && k < terms.length) {
                terms[k] = term;
            }
        }

        void clear() {
            Arrays.fill(terms, 0);
            top = 0;
        }

        void take(Series from) {
            for (int k = 0; k < terms.length; k++) {
                terms[k] = from.at(k);
            }
            top = from.top;
        }

        void trim() {
            top = 0;
            for (int k = 1; k < terms.length; k++) {
                if (terms[k] != 0) {
                    top = k;
                }
            }
        }

        long error() {
            if (top > MAX_DEGREE) {
                return NOT_POSSIBLE;
            }
            for (long term : terms) {
                if (Math.abs(term) > MAX_COEFFICIENT) {
                    return OVERFLOW;
                }
            }
            return NO_ERROR;
        }

        long valueAt(long x) {
            long b = 0;
            long d = 0;
            for (int k = top; k >= 1; k--) {
                long t = at(k) + rounded(2 * x * b, ONE) - d;
                d = b;
                b = t;
            }
            return at(0) + rounded(x * b, ONE) - d;
        }

        /** The least degree to which a cut by the tolerance leads. */
        int topWithin(int tolerance) {
            int n = top;
            long away = Math.abs(at(n));
            while (n > 0 && away <= tolerance) {
                n--;
                away += Math.abs(at(n));
            }
            return n;
        }

        void dropAbove(int n) {
            for (int k = Math.max(n, 0) + 1; k < terms.length; k++) {
                terms[k] = 0;
            }
            trim();
        }

        /** How many coefficients come before that of index k in the order of absolute values. */
        int placeOf(int k) {
            long size = Math.abs(at(k));
            int place = 0;
            for (int i = 0; i <= top; i++) {
                long other = Math.abs(at(i));
                if (other > size || other == size && i < k) {
                    place++;
                }
            }
            return place;
        }

        // The functions below make this series anew; those that say so want other series than this one.

        void becomeSum(Series a, int fa, Series b, int fb) {
            for (int k = 0; k < terms.length; k++) {
                terms[k] = fa * a.at(k) + fb * b.at(k);
            }
            trim();
        }

        /** Neither a nor b may be this series. The exact sums stay below 50 * 2^56, so a long holds them. */
        void becomeProduct(Series a, Series b) {
            clear();
            for (int i = 0; i <= a.top; i++) {
                for (int j = 0; j <= b.top; j++) {
                    long pair = a.at(i) * b.at(j);
                    put(i + j, at(i + j) + pair);
                    int folded = Math.abs(i - j);
                    put(folded, at(folded) + pair);
                }
            }
            for (int k = 0; k < terms.length; k++) {
                terms[k] = rounded(terms[k], 2L * ONE);
            }
            trim();
        }

        /** The series c may not be this one. */
        void becomeDerivative(Series c) {
            clear();
            for (int k = c.top; k >= 1; k--) {
                put(k - 1, at(k + 1) + 2 * k * c.at(k));
            }
            put(0, rounded(at(0), 2));
            trim();
        }

        /** The series c may not be this one. */
        void becomeAntiderivative(Series c) {
            clear();
            long valueAtMinusOne = 0;
            for (int k = 1; k <= c.top + 1; k++) {
                long before = k == 1 ? 2 * c.at(0) : c.at(k - 1);
                long term = rounded(before - c.at(k + 1), 2L * k);
                put(k, term);
                valueAtMinusOne += k % 2 == 0 ? term : -term;
            }
            put(0, -valueAtMinusOne);
            trim();
        }

        /** The quotient of c by x - r; the series c may not be this one. */
        void becomeQuotient(Series c, long r) {
            clear();
            for (int k = c.top; k >= 2; k--) {
                put(k - 1, 2 * c.at(k) + rounded(2 * r * at(k), ONE) - at(k + 1));
            }
            put(0, c.at(1) + rounded(r * at(1), ONE) - rounded(at(2), 2));
            trim();
        }
    }

    /** The roots of one series at a time, from the left to the right. */
    private static final class RootSearch {
        private static final int MAX_ROOTS = 24;
        private static final int MAX_INTERVALS = 2000;
        private static final int SMALLEST_WIDTH = 16;

        private final long[] roots = new long[MAX_ROOTS];

        /**
         * The right ends of the intervals still to be looked at, the next one last; each begins where the one
         * before it ends, so the left ends need not be kept. 17 halvings lead to the smallest width.
         */
        private final long[] ends = new long[32];
        private int waiting;
        private int count;
        private int lookedAt;

        int count() {
            return count;
        }

        int lookedAt() {
            return lookedAt;
        }

        long found(int index) {
            return index >= 0 && index < roots.length ? roots[index] : 0;
        }

        void run(Series s) {
            long steepness = steepnessOf(s);
            count = 0;
            lookedAt = 0;
            waiting = 0;
            push(ONE);
            long a = -ONE;
            while (waiting > 0 && count < MAX_ROOTS && lookedAt < MAX_INTERVALS) {
                lookedAt++;
                long b = nextEnd();
                long m = Math.floorDiv(a + b, 2);
                boolean free = isFree(s, steepness, m, Math.max(b - m, m - a));
                if (!free && b - a > SMALLEST_WIDTH) {
                    push(m);
                } else {
                    if (!free) {
                        note(m, a);
                    }
                    waiting--;
                    a = b;
                }
            }
        }

        /** The bound D for the slope of a series. */
        private static long steepnessOf(Series s) {
            long sum = 0;
            for (int k = 1; k <= s.top(); k++) {
                sum += k * k * Math.abs(s.at(k));
            }
            return sum;
        }

        private static boolean isFree(Series s, long steepness, long m, long h) {
            long slack = 8L * (s.top() + 1);
            return Math.abs(s.valueAt(m)) > rounded(steepness * h, ONE) + slack;
        }

        private void push(long end) {
            if (waiting >= 0 && waiting < ends.length) {
                ends[waiting] = end;
                waiting++;
            }
        }

        private long nextEnd() {
            int next = waiting - 1;
            return next >= 0 && next < ends.length ? ends[next] : 0;
        }

        /** Neighbouring intervals around one root would each give it, so one next to the latest root gives none. */
        private void note(long m, long a) {
            if (count > 0 && found(count - 1) >= a - SMALLEST_WIDTH) {
                return;
            }
            if (count >= 0 && count < roots.length) {
                roots[count] = m;
                count++;
            }
        }
    }
}
