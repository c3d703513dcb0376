import java.io.IOException;
import java.nio.file.Files;
import java.nio.file.Path;
import java.util.regex.Matcher;
import java.util.regex.Pattern;

/** What of LANGUAGE.md can be seen in the words of the source: rules 2 to 6, 11 and 13. */
public final class SourceTest {
    private static final Checks CHECKS = new Checks("SourceTest");
    private static final Path SOURCE = Path.of("src/main/java/ScaledNumeralDesk.java");

    public static void main(String[] args) throws IOException {
        String text = Files.readString(SOURCE);
        String code = text.replaceAll("(?s)/\\*.*?\\*/", "").replaceAll("//[^\n]*", "");
        String words = code.replaceAll("\"[^\"]*\"", "\"\"");
        noneOf(words, "\\b(throw|throws|try|catch|finally|synchronized|assert|package|native|volatile|transient)\\b");
        noneOf(words, "->|::|@");
        noneOf(words, "\\b(double|float|Object|Thread|Random|Exception|hashCode|toString|equals|nanoTime)\\b");
        noneOf(words, "\\w+Exact\\b");
        noneOf(words, "static \\{");
        noneOf(words, "\"\" \\+|\\+ \"\"");
        noneOf(words, "static (?!final\\b)\\w+(\\[\\])* \\w+( =|;)");
        onlyOneOf(words, "import ([^;]+);", "java.util.Arrays");
        onlyOneOf(words, "\\b(?:Math|Integer|Long|System|Arrays)\\.(\\w+)", "max|min|floorDiv|signum|arraycopy|fill");
        for (int i = 0; i < text.length(); i++) {
            if (text.charAt(i) > 255) {
                CHECKS.same("character at " + i, (int) text.charAt(i), "at most 255");
            }
        }
        methodsStayShort(code);
        CHECKS.end();
    }

    private static void noneOf(String code, String pattern) {
        Matcher matcher = Pattern.compile(pattern).matcher(code);
        CHECKS.same("found of " + pattern, matcher.find() ? matcher.group() : "none", "none");
    }

    private static void onlyOneOf(String code, String pattern, String allowed) {
        Matcher matcher = Pattern.compile(pattern).matcher(code);
        while (matcher.find()) {
            CHECKS.same(matcher.group(1) + " is one of " + allowed, matcher.group(1).matches(allowed), true);
        }
    }

    private static void methodsStayShort(String code) {
        int start = -1;
        String[] lines = code.split("\n");
        for (int i = 0; i < lines.length; i++) {
            if (lines[i].matches(" {4,8}[\\w\\[\\] ]+\\(.*") && !lines[i].endsWith(";")) {
                start = i;
            } else if (start >= 0 && lines[i].matches(" {4,8}\\}")) {
                CHECKS.same("lines from " + lines[start].trim() + " on are few", i - start <= 60, true);
                start = -1;
            }
        }
    }
}
