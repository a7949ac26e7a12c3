import java.io.IOException;
import java.nio.charset.StandardCharsets;
import java.nio.file.Files;
import java.nio.file.Path;
import java.util.List;
import java.util.regex.Matcher;
import java.util.regex.Pattern;

/** The rules of LANGUAGE.md that the text of the program shows by itself. */
public final class LanguageTest {
    private static final Path SOURCE = Path.of("src", "main", "java", "ThirdFavour.java");
    private static final String[] NOT_THERE = {
        "\\bthrow\\b", "\\btry\\b", "\\bcatch\\b", "\\bsynchronized\\b", "\\bassert\\b", "->", "::", "\\bpackage\\b",
        "\\bstatic\\s*\\{", "\\bString\\b", "\\bdouble\\b", "\\bfloat\\b", "Exact\\b", "\\bSystem\\.(?!arraycopy\\b)",
        "\\bArrays\\.(?!fill\\b|copyOf\\b|copyOfRange\\b)", "\\bimport (?!java\\.util\\.Arrays;)", "\\bnew\\s+\\w+\\(\\)\\s*\\{",
        "\\.(equals|hashCode|toString|getClass)\\(", "while \\(true\\)", "for \\(;;\\)", "[^\\x00-\\x7f]"};

    public static void main(String[] args) throws IOException {
        Check check = new Check("language");
        List<String> lines = Files.readAllLines(SOURCE, StandardCharsets.ISO_8859_1);
        for (int i = 0; i < lines.size(); i++) {
            String line = lines.get(i);
            String code = line.replaceAll("/\\*.*?\\*/|//.*", "").replaceAll("'.'", "' '");
            for (String pattern : NOT_THERE) {
                Matcher m = Pattern.compile(pattern).matcher(code);
                check.holds("line " + (i + 1) + " without " + pattern, !m.find());
            }
        }
        methodLengths(check, lines);
        check.end();
    }

    /** A method's end is the first brace as far in as its head. */
    private static void methodLengths(Check check, List<String> lines) {
        Pattern head = Pattern.compile("^( {4}| {8})(?! |if\\b|for\\b|switch\\b|while\\b)[\\w\\[\\] ]+\\(.*\\) \\{$");
        int methods = 0;
        for (int i = 0; i < lines.size(); i++) {
            Matcher m = head.matcher(lines.get(i));
            if (m.find()) {
                int end = i;
                while (end < lines.size() && !lines.get(end).equals(m.group(1) + "}")) {
                    end++;
                }
                methods++;
                check.holds("the method at line " + (i + 1) + " is short", end - i < 60);
            }
        }
        check.holds("methods were found", methods > 60);
    }
}
