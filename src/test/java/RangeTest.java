import java.lang.reflect.Method;

/**
 * The range of each argument, promise by promise: one below its least, its least, its greatest, one above. A call
 * that is taken answers and does what Reference does; one that is refused changes nothing.
 */
public final class RangeTest {
    private static final int SERIES = 0;
    private static final int INDEX = 1;
    private static final int COEFFICIENT = 2;
    private static final int NUMBER = 3;
    private static final int FACTOR = 4;
    private static final int TOLERANCE = 5;
    private static final int POINT = 6;
    private static final int POINT_VALUE = 7;
    private static final int POWER = 8;
    private static final int ROOT = 9;

    private static final int[] LEAST = {
        0, 0, -268435456, -1048576, -1000, 0, 0, -134217728, 0, -1
    };
    private static final int[] MOST = {
        7, 24, 268435456, 1048576, 1000, 1000000000, 16, 134217728, 4, Integer.MAX_VALUE
    };

    private static Method method;
    private static CosineSeries program;
    private static Reference reference;

    public static void main(String[] args) throws Exception {
        ranges(2, "setCoefficient", SERIES, INDEX, COEFFICIENT);
        ranges(3, "coefficient", SERIES, INDEX);
        ranges(4, "degree", SERIES);
        ranges(5, "copy", SERIES, SERIES);
        ranges(6, "value", SERIES, NUMBER);
        ranges(7, "add", SERIES, FACTOR, SERIES, FACTOR, SERIES);
        ranges(8, "multiply", SERIES, SERIES, SERIES);
        ranges(9, "differentiate", SERIES, SERIES);
        ranges(10, "antidifferentiate", SERIES, SERIES);
        ranges(11, "compose", SERIES, SERIES, SERIES);
        ranges(12, "divide", SERIES, NUMBER, SERIES);
        ranges(13, "cut", SERIES, TOLERANCE);
        ranges(14, "basis", INDEX, SERIES);
        ranges(15, "integral", SERIES);
        ranges(16, "inner", SERIES, SERIES);
        ranges(17, "bound", SERIES);
        ranges(18, "degreeWith", SERIES, TOLERANCE);
        ranges(19, "byValue", SERIES, INDEX);
        ranges(20, "setValue", POINT, POINT_VALUE);
        ranges(21, "interpolate", POWER, SERIES);
        ranges(22, "sample", SERIES, POWER);
        ranges(23, "misfit", SERIES, POWER);
        ranges(24, "extremePoint", POWER, POINT);
        ranges(25, "root", SERIES, ROOT);
        ranges(26, "intervals", SERIES);
        ranges(27, "greatest", SERIES);
        Checks.finish("RangeTest");
    }

    private static void ranges(int promise, String name, int... kinds) throws Exception {
        Checks.about("Promise " + promise + ", the ranges of its arguments");
        method = methodNamed(name);
        for (int i = 0; i < kinds.length; i++) {
            int least = LEAST[kinds[i]];
            int most = MOST[kinds[i]];
            refused(kinds, i, Integer.MIN_VALUE);
            refused(kinds, i, least - 1);
            taken(kinds, i, least);
            taken(kinds, i, least + 1);
            taken(kinds, i, most - 1);
            taken(kinds, i, most);
            if (most < Integer.MAX_VALUE) {
                refused(kinds, i, most + 1);
                refused(kinds, i, Integer.MAX_VALUE);
            }
        }
        allRefusedAtOnce(kinds);
    }

    private static Method methodNamed(String name) {
        for (Method m : CosineSeries.class.getMethods()) {
            if (m.getName().equals(name)) {
                return m;
            }
        }
        throw new IllegalStateException("no method " + name);
    }

    /** The greatest power goes with every point, and the point 1 with every power; all else is in the middle. */
    private static int[] ordinary(int[] kinds, int place, int argument) {
        int[] arguments = new int[kinds.length];
        for (int i = 0; i < kinds.length; i++) {
            arguments[i] = kinds[i] == POWER ? 4 : kinds[i] == SERIES ? i % 3 : kinds[i] == ROOT ? 0 : 1;
        }
        arguments[place] = argument;
        return arguments;
    }

    private static void refused(int[] kinds, int place, int argument) throws Exception {
        prepare();
        compare(ordinary(kinds, place, argument), true);
    }

    private static void taken(int[] kinds, int place, int argument) throws Exception {
        prepare();
        compare(ordinary(kinds, place, argument), false);
    }

    private static void allRefusedAtOnce(int[] kinds) throws Exception {
        int[] below = new int[kinds.length];
        int[] above = new int[kinds.length];
        for (int i = 0; i < kinds.length; i++) {
            below[i] = LEAST[kinds[i]] - 1;
            above[i] = kinds[i] == ROOT ? -2 : MOST[kinds[i]] + 1;
        }
        prepare();
        compare(below, true);
        prepare();
        compare(above, true);
    }

    /** The reference is asked with the program, so that both tell which calls are refused. */
    private static void compare(int[] arguments, boolean isRefused) throws Exception {
        Object[] boxed = new Object[arguments.length];
        StringBuilder text = new StringBuilder(method.getName());
        for (int i = 0; i < boxed.length; i++) {
            boxed[i] = arguments[i];
            text.append(i == 0 ? "(" : ", ").append(arguments[i]);
        }
        String what = text.append(")").toString();
        long got = (Long) method.invoke(program, boxed);
        Checks.that(what, (got == Checks.INVALID) == isRefused, isRefused ? "was taken" : "was refused");
        Checks.due(what, got, reference.answer(method.getName(), arguments));
        compareStates(what);
    }

    /** Where a call is refused, the reference is as it was prepared. */
    private static void compareStates(String what) {
        long[] state = Checks.lastState(program);
        int place = 0;
        for (int i = 0; i < 8; i++) {
            Checks.due(what + ", then degree(" + i + ")", state[place++], ask("degree", i));
            for (int k = 0; k <= 24; k++) {
                Checks.due(what + ", then coefficient(" + i + ", " + k + ")", state[place++], ask("coefficient", i, k));
            }
        }
        for (int j = 0; j <= 16; j++) {
            Checks.due(what + ", then setValue(" + j + ", 0)", state[place++], ask("setValue", j, 0));
        }
    }

    private static long ask(String name, int... arguments) {
        return reference.answer(name, arguments);
    }

    private static void prepare() {
        program = new CosineSeries();
        reference = new Reference();
        for (int i = 0; i < 8; i++) {
            program.setCoefficient(i, i % 3 + 1, 1048576 + 1000 * i);
            ask("setCoefficient", i, i % 3 + 1, 1048576 + 1000 * i);
        }
        program.setValue(0, 5);
        ask("setValue", 0, 5);
        program.setValue(16, -7);
        ask("setValue", 16, -7);
    }
}
