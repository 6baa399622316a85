import java.math.BigInteger;
import java.util.ArrayList;
import java.util.List;

/**
 * The document once more, written without care for speed and with numbers that can't overflow, for comparison with
 * CosineSeries. It shares no code with it: series are lists, roots are found by recursion, and a search for an
 * error ends with an exception.
 */
final class Reference {
    private static final BigInteger ONE = BigInteger.valueOf(1048576);
    private static final BigInteger TWO = BigInteger.TWO;
    private static final BigInteger ZERO = BigInteger.ZERO;
    private static final BigInteger LIMIT = BigInteger.TWO.pow(28);
    private static final int[] QUARTER = {1048576, 1028428, 968758, 871859, 741455, 582558, 401273, 204567, 0};

    private static final class Refusal extends RuntimeException {
        private static final long serialVersionUID = 1L;
        private final long code;

        Refusal(long code) {
            super(null, null, false, false);
            this.code = code;
        }
    }

    private final List<List<BigInteger>> all = new ArrayList<>();
    private final BigInteger[] v = new BigInteger[17];

    Reference() {
        for (int i = 0; i < 8; i++) {
            all.add(List.of(ZERO));
        }
        for (int j = 0; j < 17; j++) {
            v[j] = ZERO;
        }
    }

    long answer(String name, int[] a) {
        try {
            return dispatch(name, a);
        } catch (Refusal r) {
            return r.code;
        }
    }

    private long dispatch(String name, int[] a) {
        switch (name) {
            case "setCoefficient": return setCoefficient(a[0], a[1], a[2]);
            case "coefficient": return coefficient(a[0], a[1]);
            case "degree": return series(a[0]).size() - 1;
            case "copy": return store(series(a[0]), a[1]);
            case "value": return value(a[0], a[1]);
            case "add": return add(a[0], a[1], a[2], a[3], a[4]);
            case "multiply": return multiply(a[0], a[1], a[2]);
            case "differentiate": return differentiate(a[0], a[1]);
            case "antidifferentiate": return antidifferentiate(a[0], a[1]);
            case "compose": return compose(a[0], a[1], a[2]);
            case "divide": return divide(a[0], a[1], a[2]);
            case "cut": return cut(a[0], a[1]);
            case "basis": return basis(a[0], a[1]);
            case "integral": return integral(a[0]);
            case "inner": return inner(a[0], a[1]);
            case "bound": return bound(a[0]);
            case "degreeWith": return degreeWith(a[0], a[1]);
            case "byValue": return byValue(a[0], a[1]);
            case "setValue": return setValue(a[0], a[1]);
            case "interpolate": return interpolate(a[0], a[1]);
            case "sample": return sample(a[0], a[1]);
            case "misfit": return misfit(a[0], a[1]);
            case "extremePoint": return extremePoint(a[0], a[1]);
            case "root": return root(a[0], a[1]);
            case "intervals": return intervals(a[0]);
            case "greatest": return greatest(a[0]);
            default: throw new IllegalStateException(name);
        }
    }

    // ---- arguments and series

    private static void range(long number, long least, long most) {
        if (number < least || number > most) {
            throw new Refusal(Checks.INVALID);
        }
    }

    private List<BigInteger> series(int i) {
        range(i, 0, 7);
        return all.get(i);
    }

    private static BigInteger at(List<BigInteger> c, int k) {
        return k < c.size() ? c.get(k) : ZERO;
    }

    private static BigInteger big(long number) {
        return BigInteger.valueOf(number);
    }

    /** The greatest integer that is at most v / n + 1/2. */
    private static BigInteger rounded(BigInteger number, BigInteger n) {
        BigInteger above = number.multiply(TWO).add(n);
        BigInteger below = n.multiply(TWO);
        if (below.signum() < 0) {
            above = above.negate();
            below = below.negate();
        }
        BigInteger[] parts = above.divideAndRemainder(below);
        return parts[1].signum() < 0 ? parts[0].subtract(BigInteger.ONE) : parts[0];
    }

    private static List<BigInteger> trimmed(List<BigInteger> c) {
        List<BigInteger> t = new ArrayList<>(c);
        while (t.size() > 1 && t.get(t.size() - 1).signum() == 0) {
            t.remove(t.size() - 1);
        }
        return t;
    }

    private static List<BigInteger> checked(List<BigInteger> c) {
        List<BigInteger> t = trimmed(c);
        if (t.size() > 25) {
            throw new Refusal(Checks.IMPOSSIBLE);
        }
        for (BigInteger term : t) {
            if (term.abs().compareTo(LIMIT) > 0) {
                throw new Refusal(Checks.OVERFLOW);
            }
        }
        return t;
    }

    private long store(List<BigInteger> c, int into) {
        range(into, 0, 7);
        all.set(into, checked(c));
        return all.get(into).size() - 1;
    }

    // ---- promises 2 to 6

    private long setCoefficient(int i, int k, int number) {
        range(k, 0, 24);
        range(number, -(1 << 28), 1 << 28);
        List<BigInteger> c = new ArrayList<>(series(i));
        while (c.size() <= k) {
            c.add(ZERO);
        }
        c.set(k, big(number));
        return store(c, i);
    }

    private long coefficient(int i, int k) {
        range(k, 0, 24);
        return at(series(i), k).longValueExact();
    }

    private static BigInteger valueOf(List<BigInteger> c, BigInteger x) {
        BigInteger b = ZERO;
        BigInteger d = ZERO;
        for (int k = c.size() - 1; k >= 1; k--) {
            BigInteger t = c.get(k).add(rounded(TWO.multiply(x).multiply(b), ONE)).subtract(d);
            d = b;
            b = t;
        }
        return c.get(0).add(rounded(x.multiply(b), ONE)).subtract(d);
    }

    private long value(int i, int x) {
        range(x, -1048576, 1048576);
        return valueOf(series(i), big(x)).longValueExact();
    }

    // ---- promises 7 to 14

    private static List<BigInteger> combined(List<BigInteger> a, long fa, List<BigInteger> b, long fb) {
        List<BigInteger> sum = new ArrayList<>();
        for (int k = 0; k < Math.max(a.size(), b.size()); k++) {
            sum.add(at(a, k).multiply(big(fa)).add(at(b, k).multiply(big(fb))));
        }
        return sum;
    }

    private long add(int a, int fa, int b, int fb, int into) {
        range(fa, -1000, 1000);
        range(fb, -1000, 1000);
        range(into, 0, 7);
        return store(combined(series(a), fa, series(b), fb), into);
    }

    private static List<BigInteger> product(List<BigInteger> a, List<BigInteger> b) {
        List<BigInteger> c = new ArrayList<>();
        for (int k = 0; k <= a.size() + b.size() - 2; k++) {
            BigInteger sum = ZERO;
            BigInteger folded = ZERO;
            for (int i = 0; i < a.size(); i++) {
                for (int j = 0; j < b.size(); j++) {
                    BigInteger pair = a.get(i).multiply(b.get(j));
                    sum = i + j == k ? sum.add(pair) : sum;
                    folded = i - j == k || j - i == k ? folded.add(pair) : folded;
                }
            }
            c.add(rounded(sum.add(folded), TWO.multiply(ONE)));
        }
        return c;
    }

    private long multiply(int a, int b, int into) {
        range(into, 0, 7);
        return store(product(series(a), series(b)), into);
    }

    private static List<BigInteger> derivative(List<BigInteger> c) {
        int n = c.size() - 1;
        BigInteger[] d = new BigInteger[n + 2];
        d[n] = ZERO;
        d[n + 1] = ZERO;
        for (int k = n; k >= 1; k--) {
            d[k - 1] = d[k + 1].add(big(2L * k).multiply(c.get(k)));
        }
        d[0] = rounded(d[0], TWO);
        return List.of(d);
    }

    private long differentiate(int from, int into) {
        range(into, 0, 7);
        return store(derivative(series(from)), into);
    }

    private long antidifferentiate(int from, int into) {
        range(into, 0, 7);
        List<BigInteger> c = series(from);
        List<BigInteger> result = new ArrayList<>();
        result.add(ZERO);
        BigInteger first = ZERO;
        for (int k = 1; k <= 25; k++) {
            BigInteger before = k == 1 ? at(c, 0).multiply(TWO) : at(c, k - 1);
            result.add(rounded(before.subtract(at(c, k + 1)), big(2L * k)));
            first = k % 2 == 0 ? first.subtract(result.get(k)) : first.add(result.get(k));
        }
        result.set(0, first);
        return store(result, into);
    }

    private long compose(int f, int g, int into) {
        range(into, 0, 7);
        List<BigInteger> outer = series(f);
        List<BigInteger> inside = series(g);
        List<BigInteger> b = List.of(ZERO);
        List<BigInteger> d = List.of(ZERO);
        for (int k = outer.size() - 1; k >= 0; k--) {
            List<BigInteger> product = checked(product(inside, b));
            List<BigInteger> t = combined(product, k == 0 ? 1 : 2, d, -1);
            t.set(0, t.get(0).add(outer.get(k)));
            d = b;
            b = checked(t);
        }
        return store(b, into);
    }

    private long divide(int from, int r, int into) {
        range(r, -1048576, 1048576);
        range(into, 0, 7);
        List<BigInteger> c = series(from);
        long remainder = valueOf(c, big(r)).longValueExact();
        int n = c.size() - 1;
        if (n == 0) {
            store(List.of(ZERO), into);
            return remainder;
        }
        BigInteger[] q = new BigInteger[n + 3];
        java.util.Arrays.fill(q, ZERO);
        for (int k = n; k >= 2; k--) {
            q[k - 1] = TWO.multiply(c.get(k)).add(rounded(big(2L * r).multiply(q[k]), ONE)).subtract(q[k + 1]);
        }
        q[0] = c.get(1).add(rounded(big(r).multiply(q[1]), ONE)).subtract(rounded(q[2], TWO));
        store(List.of(q).subList(0, n), into);
        return remainder;
    }

    private long cut(int i, int tolerance) {
        int left = (int) degreeWith(i, tolerance);
        int before = all.get(i).size() - 1;
        store(all.get(i).subList(0, left + 1), i);
        return before - left;
    }

    private long basis(int k, int into) {
        range(k, 0, 24);
        List<BigInteger> c = new ArrayList<>();
        for (int i = 0; i < k; i++) {
            c.add(ZERO);
        }
        c.add(ONE);
        return store(c, into);
    }

    // ---- promises 15 to 19

    private long integral(int i) {
        List<BigInteger> c = series(i);
        BigInteger sum = ZERO;
        for (int k = 0; k < c.size(); k += 2) {
            sum = sum.add(rounded(TWO.multiply(c.get(k)), big(1 - k * k)));
        }
        return sum.longValueExact();
    }

    private long inner(int a, int b) {
        BigInteger sum = TWO.multiply(at(series(a), 0)).multiply(at(series(b), 0));
        for (int k = 1; k <= 24; k++) {
            sum = sum.add(at(series(a), k).multiply(at(series(b), k)));
        }
        return rounded(sum, ONE).longValueExact();
    }

    private static BigInteger sizes(List<BigInteger> c) {
        BigInteger sum = ZERO;
        for (BigInteger term : c) {
            sum = sum.add(term.abs());
        }
        return sum;
    }

    private long bound(int i) {
        return sizes(series(i)).longValueExact();
    }

    /** The least degree above which all coefficients together stay within the tolerance. */
    private long degreeWith(int i, int tolerance) {
        range(tolerance, 0, 1000000000);
        List<BigInteger> c = series(i);
        for (int n = 0; n < c.size(); n++) {
            if (sizes(c.subList(n + 1, c.size())).compareTo(big(tolerance)) <= 0) {
                return n;
            }
        }
        throw new IllegalStateException();
    }

    private long byValue(int i, int place) {
        range(place, 0, 24);
        List<BigInteger> c = series(i);
        List<Integer> order = new ArrayList<>();
        for (int k = 0; k < c.size(); k++) {
            order.add(k);
        }
        order.sort((k, l) -> c.get(l).abs().compareTo(c.get(k).abs()));
        if (place >= order.size()) {
            throw new Refusal(Checks.MISSING);
        }
        return order.get(place);
    }

    // ---- promises 20 to 24

    private long setValue(int j, int number) {
        range(j, 0, 16);
        range(number, -(1 << 27), 1 << 27);
        long previous = v[j].longValueExact();
        v[j] = big(number);
        return previous;
    }

    private static BigInteger cosine(int m) {
        int turned = m % 32;
        if (turned > 16) {
            return cosine(32 - turned);
        }
        return big(turned > 8 ? -QUARTER[16 - turned] : QUARTER[turned]);
    }

    private long interpolate(int power, int into) {
        range(power, 0, 4);
        range(into, 0, 7);
        int n = 1 << power;
        List<BigInteger> c = new ArrayList<>();
        for (int k = 0; k <= n; k++) {
            BigInteger s = ZERO;
            for (int j = 0; j <= n; j++) {
                BigInteger u = j == 0 || j == n ? BigInteger.ONE : TWO;
                s = s.add(u.multiply(v[j]).multiply(cosine(16 / n * j * k)));
            }
            BigInteger w = k == 0 || k == n ? BigInteger.ONE : TWO;
            c.add(rounded(w.multiply(s), big(2L * n).multiply(ONE)));
        }
        return store(c, into);
    }

    private long sample(int i, int power) {
        range(power, 0, 4);
        List<BigInteger> c = series(i);
        int n = 1 << power;
        BigInteger[] fresh = new BigInteger[n + 1];
        for (int j = 0; j <= n; j++) {
            fresh[j] = valueOf(c, cosine(16 / n * j));
            if (fresh[j].abs().compareTo(TWO.pow(27)) > 0) {
                throw new Refusal(Checks.OVERFLOW);
            }
        }
        System.arraycopy(fresh, 0, v, 0, n + 1);
        return n + 1;
    }

    private long misfit(int i, int power) {
        range(power, 0, 4);
        List<BigInteger> c = series(i);
        int n = 1 << power;
        BigInteger most = ZERO;
        for (int j = 0; j <= n; j++) {
            most = most.max(valueOf(c, cosine(16 / n * j)).subtract(v[j]).abs());
        }
        return most.longValueExact();
    }

    private long extremePoint(int power, int j) {
        range(power, 0, 4);
        range(j, 0, 1 << power);
        return cosine(j * (16 >> power)).longValueExact();
    }

    // ---- promises 25 to 27

    private static final class Search {
        private final List<BigInteger> c;
        private final List<Long> roots = new ArrayList<>();
        private BigInteger steep = ZERO;
        private int looked = 0;

        Search(List<BigInteger> c) {
            this.c = c;
            for (int k = 0; k < c.size(); k++) {
                steep = steep.add(big((long) k * k).multiply(c.get(k).abs()));
            }
            look(-1048576, 1048576);
        }

        private void look(long a, long b) {
            if (roots.size() == 24 || looked == 2000) {
                return;
            }
            looked++;
            long m = (long) Math.floor((a + b) / 2.0);
            if (isFree(a, m, b)) {
                return;
            }
            if (b - a > 16) {
                look(a, m);
                look(m, b);
            } else if (roots.isEmpty() || roots.get(roots.size() - 1) < a - 16) {
                roots.add(m);
            }
        }

        private boolean isFree(long a, long m, long b) {
            BigInteger h = big(Math.max(b - m, m - a));
            BigInteger least = rounded(steep.multiply(h), ONE).add(big(8L * c.size()));
            return valueOf(c, big(m)).abs().compareTo(least) > 0;
        }
    }

    private long root(int i, int index) {
        List<BigInteger> c = series(i);
        range(index, -1, Integer.MAX_VALUE);
        List<Long> roots = new Search(c).roots;
        if (index == -1) {
            return roots.size();
        }
        if (index >= roots.size()) {
            throw new Refusal(Checks.MISSING);
        }
        return roots.get(index);
    }

    private long intervals(int i) {
        return new Search(series(i)).looked;
    }

    private long greatest(int i) {
        List<BigInteger> c = series(i);
        BigInteger most = valueOf(c, ONE.negate()).max(valueOf(c, ONE));
        for (long x : new Search(checked(derivative(c))).roots) {
            most = most.max(valueOf(c, big(x)));
        }
        return most.longValueExact();
    }
}
