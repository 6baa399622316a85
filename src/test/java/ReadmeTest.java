import java.io.File;
import java.lang.reflect.Method;
import java.nio.file.Files;
import java.nio.file.Path;
import java.util.regex.Matcher;
import java.util.regex.Pattern;

/** README.md: the calls of its example give the answers that stand behind them, and no test goes unnamed. */
public final class ReadmeTest {
    private static final Pattern CALL = Pattern.compile("^x\\.(\\w+)\\(([-\\d, ]*)\\); +// (-?\\d+|[A-Z_]+): \\S.*$");
    private static final String[] ERRORS = {"INVALID_ARGUMENT", "NOT_POSSIBLE", "OVERFLOW", "NOT_FOUND"};

    public static void main(String[] args) throws Exception {
        String page = Files.readString(Path.of("README.md"));
        example(page);
        for (String error : ERRORS) {
            Checks.that(error, page.contains("- `" + error + "`:"), "is not explained");
        }
        String[] files = new File("src/test/java").list();
        for (String file : files == null ? new String[0] : files) {
            if (file.endsWith("Test.java")) {
                Checks.that(file, page.contains("`" + file.replace(".java", "") + "`"), "is not named");
            }
        }
        Checks.finish("ReadmeTest");
    }

    private static void example(String page) throws Exception {
        Matcher block = Pattern.compile("(?s)```java\n(.*?)```").matcher(page);
        Checks.that("the example", block.find(), "is missing");
        String[] lines = block.group(1).split("\n");
        Checks.that("the first line", lines[0].equals("CosineSeries x = new CosineSeries();"), "is " + lines[0]);
        CosineSeries x = new CosineSeries();
        for (int i = 1; i < lines.length; i++) {
            if (lines[i].isEmpty()) {
                continue;
            }
            Matcher call = CALL.matcher(lines[i]);
            boolean isCall = call.matches();
            Checks.that(lines[i], isCall, "is no call with an answer");
            if (isCall) {
                Checks.due(lines[i], answer(x, call.group(1), call.group(2).split(", ")), number(call.group(3)));
            }
        }
    }

    private static long answer(CosineSeries x, String name, String[] arguments) throws Exception {
        Class<?>[] kinds = new Class<?>[arguments.length];
        Object[] numbers = new Object[arguments.length];
        for (int i = 0; i < arguments.length; i++) {
            kinds[i] = int.class;
            numbers[i] = Integer.parseInt(arguments[i]);
        }
        Method method = CosineSeries.class.getMethod(name, kinds);
        return (Long) method.invoke(x, numbers);
    }

    private static long number(String text) throws Exception {
        if (Character.isUpperCase(text.charAt(0))) {
            return CosineSeries.class.getField(text).getLong(null);
        }
        return Long.parseLong(text);
    }
}
