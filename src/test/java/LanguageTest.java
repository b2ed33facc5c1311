import java.io.IOException;
import java.nio.file.Files;
import java.nio.file.Path;
import java.util.regex.Matcher;
import java.util.regex.Pattern;

/** LANGUAGE.md: what can be seen from the text of the program alone. */
public final class LanguageTest {
    private static final Check check = new Check();

    public static void main(String[] args) throws IOException {
        check.promise(0, "LANGUAGE.md");
        String text = Files.readString(Path.of("src/main/java/LychWeights.java"));
        String code = text.replaceAll("(?s)/\\*.*?\\*/", "").replaceAll("//[^\n]*", "").replaceAll("'.'", "' '");
        String[] forbidden = {"throw", "throws", "try", "catch", "finally", "synchronized", "assert", "import", "package",
            "protected", "equals", "hashCode", "toString", "instanceof", "transient", "volatile", "native", "var",
            "record", "yield", "float", "double"};
        for (String word : forbidden) {
            check.due("'" + word + "' stands there", 0, times(code, "\\b" + word + "\\b"));
        }
        check.due("lambdas, method references", 0, times(code, "->|::"));
        check.due("annotations", 0, times(code, "@"));
        check.due("texts", 0, times(code, "\""));
        check.due("signs above 126", 0, times(text, "[^\\n -~]"));
        check.due("library functions but these", 0,
            times(code, "\\b[A-Z][a-zA-Z]*\\.(?<!Math\\.(?=abs|max|min)|Integer\\.(?=bitCount))\\w"));
        check.due("static blocks", 0, times(code, "static\\s*\\{"));
        check.due("Exact functions", 0, times(code, "Exact\\("));
        lengths(code);
        check.end();
    }

    /** A method's head stands by four or eight blanks, and its end by as many. */
    private static void lengths(String code) {
        Matcher m = Pattern.compile("(?m)^((?:    ){1,2})(?! )[^;=\\n]*\\(([^)\\n]*)\\) \\{\\n(?s:(.*?))^\\1\\}").matcher(code);
        int methods = 0;
        while (m.find()) {
            methods++;
            int lines = times(m.group(3), "\n");
            check.due("sixty lines at most: " + m.group().split("\n")[0], 1, lines <= 60 ? 1 : 0);
            check.due("seven parameters at most", 1, m.group(2).split(",").length <= 7 ? 1 : 0);
        }
        check.due("methods were found", 1, methods > 80 ? 1 : 0);
    }

    private static int times(String text, String pattern) {
        Matcher m = Pattern.compile(pattern).matcher(text);
        int n = 0;
        while (m.find()) {
            n++;
        }
        return n;
    }
}
