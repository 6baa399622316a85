import java.lang.reflect.Constructor;
import java.lang.reflect.Field;
import java.lang.reflect.Member;
import java.lang.reflect.Method;
import java.lang.reflect.Modifier;
import java.util.TreeSet;

/** The public face: the constants, the constructor and the methods of the document, and nothing else. */
public final class FaceTest {
    private static final String[] METHODS = {
        "setCoefficient 3", "coefficient 2", "degree 1", "copy 2", "value 2", "add 5", "multiply 3",
        "differentiate 2", "antidifferentiate 2", "compose 3", "divide 3", "cut 2", "basis 2", "integral 1",
        "inner 2", "bound 1", "degreeWith 2", "byValue 2", "setValue 2", "interpolate 2", "sample 2", "misfit 2",
        "extremePoint 2", "root 2", "intervals 1", "greatest 1"
    };

    public static void main(String[] args) {
        constants();
        methods();
        othersArePrivate();
        Checks.finish("FaceTest");
    }

    private static void constants() {
        Checks.due("ONE", CosineSeries.ONE, 1048576);
        Checks.due("INVALID_ARGUMENT", CosineSeries.INVALID_ARGUMENT, Checks.INVALID);
        Checks.due("NOT_POSSIBLE", CosineSeries.NOT_POSSIBLE, Checks.IMPOSSIBLE);
        Checks.due("OVERFLOW", CosineSeries.OVERFLOW, Checks.OVERFLOW);
        Checks.due("NOT_FOUND", CosineSeries.NOT_FOUND, Checks.MISSING);
        for (Field f : CosineSeries.class.getDeclaredFields()) {
            int m = f.getModifiers();
            boolean isConstant = Modifier.isPublic(m) && Modifier.isStatic(m) && Modifier.isFinal(m);
            boolean isRightKind = f.getType() == (f.getName().equals("ONE") ? int.class : long.class);
            Checks.that("field " + f.getName(), Modifier.isPrivate(m) || isConstant && isRightKind, "not as promised");
        }
    }

    private static void methods() {
        TreeSet<String> want = new TreeSet<>();
        for (String name : METHODS) {
            want.add(name);
        }
        TreeSet<String> got = new TreeSet<>();
        for (Method m : CosineSeries.class.getDeclaredMethods()) {
            if (Modifier.isPublic(m.getModifiers())) {
                got.add(m.getName() + " " + m.getParameterCount());
                Checks.that(m.getName(), m.getReturnType() == long.class, "does not return a long");
                for (Class<?> kind : m.getParameterTypes()) {
                    Checks.that(m.getName(), kind == int.class, "takes something other than an int");
                }
            }
        }
        Checks.that("public methods", got.equals(want), "are " + got);
        Checks.that("the class", Modifier.isFinal(CosineSeries.class.getModifiers()), "is not final");
    }

    private static void othersArePrivate() {
        Constructor<?>[] constructors = CosineSeries.class.getDeclaredConstructors();
        Checks.due("constructors", constructors.length, 1);
        for (Constructor<?> c : constructors) {
            Checks.that("constructor", Modifier.isPublic(c.getModifiers()) && c.getParameterCount() == 0, "not as promised");
        }
        TreeSet<String> open = new TreeSet<>();
        for (Method m : CosineSeries.class.getDeclaredMethods()) {
            if (Modifier.isPublic(m.getModifiers())) {
                open.add(m.getName());
            }
        }
        for (Method m : CosineSeries.class.getDeclaredMethods()) {
            if (!Modifier.isPublic(m.getModifiers())) {
                Checks.that(m.getName(), isPrivate(m) && !open.contains(m.getName()), "is seen, or bears a public name");
            }
        }
    }

    private static boolean isPrivate(Member m) {
        return Modifier.isPrivate(m.getModifiers()) || m.isSynthetic();
    }
}
