import java.io.IOException;
import java.nio.file.Files;
import java.nio.file.Path;
import java.util.List;
import java.util.regex.Matcher;
import java.util.regex.Pattern;

/** What of LANGUAGE.md can be seen in the source's words: rules 2, 4, 6, 11 and 13. Run from the project's root. */
public final class LanguageTest {
    private static final List<String> RULED_OUT = List.of("throw", "throws", "try", "catch", "synchronized", "assert",
        "package", "protected", "native", "volatile", "transient", "new Object", "String\\.format", "Random", "Thread",
        "currentTimeMillis", "nanoTime", "Object", "Map", "Set", "Iterator\\b(?!<Integer>)", "stream", "var", "hashCode",
        "\\w+Exact", "System\\.(?!arraycopy)\\w+", "Math\\.(?!(max|min|abs)\\b)\\w+", "Integer\\.(?!bitCount\\b)\\w+",
        "Arrays\\.(?!(copyOf|copyOfRange|fill)\\b)\\w+", "import (?!java\\.util\\.(Arrays|ArrayList|List);)[\\w.]+");
    private static final Check check = new Check();

    public static void main(String[] args) throws IOException {
        String source = Files.readString(Path.of("src/main/java/PaidMistakes.java"));
        check.holds("signs are 1 to 127", source.chars().allMatch(c -> c > 0 && c < 128));
        String code = bare(source);
        for (String word : RULED_OUT) {
            Matcher m = Pattern.compile("\\b(?:" + word + ")\\b").matcher(code);
            check.holds("without " + word, !m.find());
        }
        check.holds("without lambdas", !code.contains("->") && !code.contains("::"));
        check.holds("without static blocks", !Pattern.compile("static\\s*\\{").matcher(code).find());
        check.holds("no arrays of more than two dimensions", !code.contains("[][]["));
        methodsAreShort(code);
        check.close("LanguageTest");
    }

    /** Without comments, and with empty texts and signs. */
    private static String bare(String source) {
        String code = Pattern.compile("/\\*.*?\\*/", Pattern.DOTALL).matcher(source).replaceAll(" ");
        code = code.replaceAll("//[^\n]*", "");
        return code.replaceAll("\"[^\"\n]*\"", "\"\"").replaceAll("'[^'\n]*'", "'x'");
    }

    private static void methodsAreShort(String code) {
        String[] lines = code.split("\n");
        int begin = -1;
        String end = "";
        for (int i = 0; i < lines.length; i++) {
            Matcher m = Pattern.compile("^( {4,8})[\\w\\[\\] ]+\\([^;]*\\) \\{$").matcher(lines[i]);
            if (begin < 0 && m.find()) {
                begin = i;
                end = m.group(1) + "}";
            } else if (begin >= 0 && lines[i].equals(end)) {
                check.holds("at most 60 lines: " + lines[begin].trim(), i - begin < 60);
                begin = -1;
            }
        }
    }
}
