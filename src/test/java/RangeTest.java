import java.lang.reflect.Method;
import java.util.ArrayList;
import java.util.List;

/** Each argument of each method at the ends of its range and beyond them; a refused call changes nothing. */
public final class RangeTest {
    private static final int SERIES = 0;
    private static final int INDEX = 1;
    private static final int COEFFICIENT = 2;
    private static final int NUMBER = 3;
    private static final int FACTOR = 4;
    private static final int TOLERANCE = 5;
    private static final int POINT = 6;
    private static final int POINT_VALUE = 7;
    private static final int POWER = 8;
    private static final int ROOT = 9;

    private static final int[] LEAST = {
        0, 0, -268435456, -1048576, -1000, 0, 0, -134217728, 0, -1
    };
    private static final int[] MOST = {
        7, 24, 268435456, 1048576, 1000, 1000000000, 16, 134217728, 4, Integer.MAX_VALUE
    };

    public static void main(String[] args) throws Exception {
        ranges("setCoefficient", SERIES, INDEX, COEFFICIENT);
        ranges("coefficient", SERIES, INDEX);
        ranges("degree", SERIES);
        ranges("copy", SERIES, SERIES);
        ranges("value", SERIES, NUMBER);
        ranges("add", SERIES, FACTOR, SERIES, FACTOR, SERIES);
        ranges("multiply", SERIES, SERIES, SERIES);
        ranges("differentiate", SERIES, SERIES);
        ranges("antidifferentiate", SERIES, SERIES);
        ranges("compose", SERIES, SERIES, SERIES);
        ranges("divide", SERIES, NUMBER, SERIES);
        ranges("cut", SERIES, TOLERANCE);
        ranges("basis", INDEX, SERIES);
        ranges("integral", SERIES);
        ranges("inner", SERIES, SERIES);
        ranges("bound", SERIES);
        ranges("degreeWith", SERIES, TOLERANCE);
        ranges("byValue", SERIES, INDEX);
        ranges("setValue", POINT, POINT_VALUE);
        ranges("interpolate", POWER, SERIES);
        ranges("sample", SERIES, POWER);
        ranges("misfit", SERIES, POWER);
        ranges("extremePoint", POWER, POINT);
        ranges("root", SERIES, ROOT);
        ranges("intervals", SERIES);
        ranges("greatest", SERIES);
        Checks.finish("RangeTest");
    }

    private static void ranges(String name, int... kinds) throws Exception {
        Method method = methodNamed(name);
        for (int i = 0; i < kinds.length; i++) {
            int[] arguments = ordinary(kinds);
            refused(method, arguments, i, Integer.MIN_VALUE);
            refused(method, arguments, i, LEAST[kinds[i]] - 1);
            taken(method, arguments, i, LEAST[kinds[i]]);
            taken(method, arguments, i, MOST[kinds[i]]);
            if (MOST[kinds[i]] < Integer.MAX_VALUE) {
                refused(method, arguments, i, MOST[kinds[i]] + 1);
                refused(method, arguments, i, Integer.MAX_VALUE);
            }
        }
    }

    private static Method methodNamed(String name) {
        for (Method m : CosineSeries.class.getMethods()) {
            if (m.getName().equals(name)) {
                return m;
            }
        }
        throw new IllegalStateException("no method " + name);
    }

    /** The greatest power goes with every point; all else is in the middle. */
    private static int[] ordinary(int[] kinds) {
        int[] arguments = new int[kinds.length];
        for (int i = 0; i < kinds.length; i++) {
            arguments[i] = kinds[i] == POWER ? 4 : kinds[i] == SERIES ? i % 3 : kinds[i] == ROOT ? 0 : 1;
        }
        return arguments;
    }

    private static void refused(Method method, int[] ordinary, int place, int argument) throws Exception {
        CosineSeries x = prepared();
        List<Long> before = state(x);
        long got = answer(x, method, ordinary, place, argument);
        Checks.due(method.getName() + " with argument " + place + " = " + argument, got, Checks.INVALID);
        Checks.that(method.getName(), before.equals(state(x)), "was refused, and changed something");
    }

    private static void taken(Method method, int[] ordinary, int place, int argument) throws Exception {
        long got = answer(prepared(), method, ordinary, place, argument);
        Checks.that(method.getName() + " with argument " + place + " = " + argument, got != Checks.INVALID, "was refused");
    }

    private static long answer(CosineSeries x, Method method, int[] ordinary, int place, int argument) throws Exception {
        Object[] arguments = new Object[ordinary.length];
        for (int i = 0; i < arguments.length; i++) {
            arguments[i] = i == place ? argument : ordinary[i];
        }
        return (Long) method.invoke(x, arguments);
    }

    private static CosineSeries prepared() {
        CosineSeries x = new CosineSeries();
        for (int i = 0; i < 8; i++) {
            x.setCoefficient(i, i % 3 + 1, 1048576 + 1000 * i);
        }
        x.setValue(0, 5);
        x.setValue(16, -7);
        return x;
    }

    private static List<Long> state(CosineSeries x) {
        List<Long> state = new ArrayList<>();
        for (int i = 0; i < 8; i++) {
            state.add(x.degree(i));
            for (int k = 0; k <= 24; k++) {
                state.add(x.coefficient(i, k));
            }
        }
        for (int j = 0; j <= 16; j++) {
            long previous = x.setValue(j, 0);
            x.setValue(j, (int) previous);
            state.add(previous);
        }
        return state;
    }
}
