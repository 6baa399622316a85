import java.nio.file.Files;
import java.nio.file.Path;
import java.util.regex.Matcher;
import java.util.regex.Pattern;

/** The rules of ../shared/LANGUAGE.md that can be seen in the program's text. */
public final class LanguageTest {
    private static final int MOST_LINES_OF_A_METHOD = 60;
    private static final String[] RULED_OUT = {
        "->", "::", "\\b(throw|throws|try|catch|finally|synchronized|assert|package|protected|native|volatile)\\b",
        "\\w+Exact\\b", "\\bstatic\\s*\\{", "\\b(equals|hashCode|toString|getClass)\\b", "\\bimport\\s+static\\b",
        "\\b(System\\.(out|err|in|exit|getenv|nanoTime|currentTimeMillis|identityHashCode))\\b",
        "\\b(Object|Class|Thread|Random|Exception|Error|Throwable|Math\\.random)\\b", "\\w\\s*\\[\\]\\s*\\[\\]\\s*\\["
    };

    public static void main(String[] args) throws Exception {
        String source = Files.readString(Path.of("src/main/java/CosineSeries.java"));
        for (char c : source.toCharArray()) {
            Checks.that("sign " + (int) c, c < 128, "is not ASCII");
        }
        String code = withoutComments(source);
        for (String pattern : RULED_OUT) {
            Matcher m = Pattern.compile(pattern).matcher(code);
            Checks.that(pattern, !m.find(), "is used");
        }
        imports(code);
        staticFields(code);
        methodLengths(source);
        Checks.finish("LanguageTest");
    }

    private static String withoutComments(String source) {
        return source.replaceAll("(?s)/\\*.*?\\*/", " ").replaceAll("//[^\n]*", " ");
    }

    private static void imports(String code) {
        Matcher m = Pattern.compile("\\bimport\\s+([\\w.*]+)").matcher(code);
        while (m.find()) {
            String name = m.group(1);
            Checks.that(name, name.matches("java\\.util\\.(Arrays|ArrayList|List|Iterator)"), "is imported");
        }
    }

    private static void staticFields(String code) {
        Matcher m = Pattern.compile("\\bstatic\\b[^;({]*=").matcher(code);
        while (m.find()) {
            Checks.that(m.group(), m.group().contains("final"), "is static and not final");
        }
    }

    /** Methods begin and end at one or two indentations. */
    private static void methodLengths(String source) {
        String[] lines = source.split("\n");
        for (int i = 0; i < lines.length; i++) {
            Matcher m = Pattern.compile("^( {4}| {8})\\S.*\\) \\{$").matcher(lines[i]);
            if (m.find()) {
                int end = i;
                while (end < lines.length - 1 && !lines[end].equals(m.group(1) + "}")) {
                    end++;
                }
                Checks.that(lines[i].trim(), end - i < MOST_LINES_OF_A_METHOD, "is too long");
            }
        }
    }
}
