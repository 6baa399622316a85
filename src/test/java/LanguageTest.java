import java.lang.reflect.Field;
import java.lang.reflect.Method;
import java.lang.reflect.Modifier;
import java.nio.file.Files;
import java.nio.file.Path;
import java.util.regex.Matcher;
import java.util.regex.Pattern;

/** The rules of ../shared/LANGUAGE.md that can be seen in the program's text and in its compiled classes. */
public final class LanguageTest {
    private static final int MOST_LINES_OF_A_METHOD = 60;
    private static final int MOST_PARAMETERS = 7;
    private static final int MOST_CLASSES = 12;
    private static final int MOST_FIELDS = 20;
    private static final String STATIC_KINDS = "int|long|boolean|char|String|int\\[\\]|long\\[\\]|char\\[\\]|byte\\[\\]";
    private static final String LIBRARY =
        "Math\\.(abs|max|min|floorDiv|floorMod)|Arrays\\.(copyOf|copyOfRange|fill)|System\\.arraycopy|util\\.Arrays";
    private static final String[] RULED_OUT = {
        "->", "::", "\\b(throw|throws|try|catch|finally|synchronized|assert|package|protected|native|volatile)\\b",
        "\\w+Exact\\b", "\\bstatic\\s*\\{", "\\b(equals|hashCode|toString|getClass)\\b", "\\bimport\\s+static\\b",
        "\\b(System\\.(out|err|in|exit|getenv|nanoTime|currentTimeMillis|identityHashCode))\\b",
        "\\b(Object|Class|Thread|Random|Exception|Error|Throwable|Math\\.random)\\b", "\\w\\s*\\[\\]\\s*\\[\\]\\s*\\["
    };

    public static void main(String[] args) throws Exception {
        String source = Files.readString(Path.of("src/main/java/CosineSeries.java"));
        for (char c : source.toCharArray()) {
            Checks.that("sign " + (int) c, c < 128, "is not ASCII");
        }
        String code = withoutComments(source);
        for (String pattern : RULED_OUT) {
            Matcher m = Pattern.compile(pattern).matcher(code);
            Checks.that(pattern, !m.find(), "is used");
        }
        imports(code);
        libraryCalls(code);
        staticFields(code);
        methodLengths(source);
        classesInside();
        Checks.finish("LanguageTest");
    }

    private static String withoutComments(String source) {
        return source.replaceAll("(?s)/\\*.*?\\*/", " ").replaceAll("//[^\n]*", " ");
    }

    private static void imports(String code) {
        Matcher m = Pattern.compile("\\bimport\\s+([\\w.*]+)").matcher(code);
        while (m.find()) {
            String name = m.group(1);
            Checks.that(name, name.matches("java\\.util\\.(Arrays|ArrayList|List|Iterator)"), "is imported");
        }
    }

    /** Names of classes begin with a capital letter and go on with small ones; those of constants do not. */
    private static void libraryCalls(String code) {
        Matcher m = Pattern.compile("\\b((?:[A-Z][a-z]\\w*|util)\\.\\w+)").matcher(code);
        while (m.find()) {
            Checks.that(m.group(1), m.group(1).matches(LIBRARY), "is not of the library that the program uses");
        }
    }

    private static void classesInside() {
        Class<?>[] inside = CosineSeries.class.getDeclaredClasses();
        Checks.that("classes", inside.length + 1 <= MOST_CLASSES, "are too many");
        members(CosineSeries.class);
        for (Class<?> c : inside) {
            int m = c.getModifiers();
            Checks.that(c.getName(), Modifier.isStatic(m), "is not static");
            Checks.that(c.getName(), !Modifier.isPublic(m) && !Modifier.isProtected(m), "is seen");
            members(c);
        }
    }

    private static void members(Class<?> c) {
        int ofObjects = 0;
        for (Field f : c.getDeclaredFields()) {
            if (Modifier.isStatic(f.getModifiers())) {
                Checks.that(f.getName(), Modifier.isFinal(f.getModifiers()), "is static and not final");
                Checks.that(f.getName(), f.getType().getSimpleName().matches(STATIC_KINDS), "is static, of another type");
            } else {
                ofObjects++;
            }
        }
        Checks.that(c.getName(), ofObjects <= MOST_FIELDS, "has too many fields");
        for (Method m : c.getDeclaredMethods()) {
            Checks.that(m.getName(), m.getParameterCount() <= MOST_PARAMETERS, "takes too many parameters");
        }
    }

    private static void staticFields(String code) {
        Matcher m = Pattern.compile("\\bstatic\\b[^;({]*=").matcher(code);
        while (m.find()) {
            Checks.that(m.group(), m.group().contains("final"), "is static and not final");
        }
    }

    /** Methods begin and end at one or two indentations. */
    private static void methodLengths(String source) {
        String[] lines = source.split("\n");
        for (int i = 0; i < lines.length; i++) {
            Matcher m = Pattern.compile("^( {4}| {8})\\S.*\\) \\{$").matcher(lines[i]);
            if (m.find()) {
                int end = i;
                while (end < lines.length - 1 && !lines[end].equals(m.group(1) + "}")) {
                    end++;
                }
                Checks.that(lines[i].trim(), end - i < MOST_LINES_OF_A_METHOD, "is too long");
            }
        }
    }
}
