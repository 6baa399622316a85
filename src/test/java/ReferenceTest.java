import java.lang.reflect.Method;
import java.util.HashMap;
import java.util.Map;

/** Long runs of calls, ordinary and odd ones, whose answers are compared with those of Reference. */
public final class ReferenceTest {
    private static final int RUNS = 500;
    private static final int CALLS_BEFORE_THE_LAST_LOOK = 260;

    /** A method's name, how often it is called, and the kinds of its arguments. */
    private static final String[][] CALLS = {
        {"setCoefficient", "12", "series", "index", "coefficient"}, {"coefficient", "2", "series", "index"},
        {"degree", "1", "series"}, {"copy", "1", "series", "series"}, {"value", "4", "series", "number"},
        {"add", "4", "series", "factor", "series", "factor", "series"},
        {"multiply", "4", "series", "series", "series"}, {"differentiate", "3", "series", "series"},
        {"antidifferentiate", "4", "series", "series"}, {"compose", "4", "series", "series", "series"},
        {"divide", "4", "series", "number", "series"}, {"cut", "3", "series", "tolerance"},
        {"basis", "3", "index", "series"}, {"integral", "3", "series"}, {"inner", "3", "series", "series"},
        {"bound", "2", "series"}, {"degreeWith", "3", "series", "tolerance"}, {"byValue", "3", "series", "index"},
        {"setValue", "8", "point", "pointValue"}, {"interpolate", "4", "power", "series"},
        {"sample", "4", "series", "power"}, {"misfit", "3", "series", "power"},
        {"extremePoint", "1", "power", "point"}, {"root", "2", "series", "root"}, {"intervals", "1", "series"},
        {"greatest", "1", "series"}
    };

    private static final Map<String, Method> METHODS = new HashMap<>();
    private static final Map<String, Integer> ANSWERED = new HashMap<>();

    private static long seed = 20261119;
    private static CosineSeries program;
    private static Reference reference;
    private static int scale;

    public static void main(String[] args) throws Exception {
        for (Method m : CosineSeries.class.getMethods()) {
            METHODS.put(m.getName(), m);
        }
        for (int run = 0; run < RUNS; run++) {
            oneRun(run);
        }
        for (String[] call : CALLS) {
            Checks.that(call[0], ANSWERED.getOrDefault(call[0], 0) > RUNS / 2, "was nearly always refused");
        }
        Checks.finish("ReferenceTest");
    }

    private static void oneRun(int run) throws Exception {
        program = new CosineSeries();
        reference = new Reference();
        scale = 1 + below(28);
        for (int i = 0; i < CALLS_BEFORE_THE_LAST_LOOK; i++) {
            String[] call = drawnCall();
            int[] arguments = new int[call.length - 2];
            for (int a = 0; a < arguments.length; a++) {
                arguments[a] = below(60) == 0 ? oddArgument() : argument(call[a + 2]);
            }
            compare(run, call[0], arguments);
        }
        lastLook(run);
    }

    private static void lastLook(int run) throws Exception {
        for (int i = 0; i < 8; i++) {
            compare(run, "degree", i);
            for (int k = 0; k <= 24; k++) {
                compare(run, "coefficient", i, k);
            }
        }
        for (int j = 0; j <= 16; j++) {
            compare(run, "setValue", j, 0);
        }
    }

    private static void compare(int run, String name, int... arguments) throws Exception {
        Object[] boxed = new Object[arguments.length];
        StringBuilder text = new StringBuilder("run " + run + ": " + name);
        for (int i = 0; i < boxed.length; i++) {
            boxed[i] = arguments[i];
            text.append(i == 0 ? "(" : ", ").append(arguments[i]);
        }
        long got = (Long) METHODS.get(name).invoke(program, boxed);
        long want = reference.answer(name, arguments);
        if (want > -9000000000000000000L) {
            ANSWERED.merge(name, 1, Integer::sum);
        }
        Checks.due(text.append(")").toString(), got, want);
    }

    // ---- what is drawn

    private static String[] drawnCall() {
        int sum = 0;
        for (String[] call : CALLS) {
            sum += Integer.parseInt(call[1]);
        }
        int place = below(sum);
        for (String[] call : CALLS) {
            place -= Integer.parseInt(call[1]);
            if (place < 0) {
                return call;
            }
        }
        throw new IllegalStateException();
    }

    private static int argument(String kind) {
        switch (kind) {
            case "series": return below(8);
            case "index": return below(3) == 0 ? below(25) : below(7);
            case "coefficient": return number(1 << 28, scale);
            case "number": return number(1 << 20, 20);
            case "factor": return below(3) == 0 ? number(1000, 9) : below(7) - 3;
            case "tolerance": return Math.min(below(30) == 0 ? 1000000000 : Math.abs(number(1 << 29, scale)), 1000000000);
            case "point": return below(17);
            case "pointValue": return number(1 << 27, Math.min(scale, 26));
            case "power": return below(5);
            case "root": return below(3) == 0 ? -1 : below(25);
            default: throw new IllegalStateException(kind);
        }
    }

    /** Most numbers are below 2 to the power of bits, some are at the ends or easy to round halfway. */
    private static int number(int most, int bits) {
        switch (below(9)) {
            case 0: return below(2) == 0 ? most : -most;
            case 1: return below(3) - 1;
            case 2: return (below(2) == 0 ? 1 : -1) * (most >> below(12));
            default: return below(1 << Math.min(bits, 29)) - (1 << Math.min(bits, 29)) / 2;
        }
    }

    private static int oddArgument() {
        int[] odd = {
            -1, 5, 8, 17, 25, -2, Integer.MIN_VALUE, Integer.MAX_VALUE, (1 << 28) + 1, -(1 << 28) - 1, (1 << 27) + 1,
            (1 << 20) + 1, -(1 << 20) - 1, 1001, -1001, 1000000001
        };
        return odd[below(odd.length)];
    }

    private static int below(int limit) {
        seed = seed * 6364136223846793005L + 1442695040888963407L;
        return (int) ((seed >>> 33) % limit);
    }
}
