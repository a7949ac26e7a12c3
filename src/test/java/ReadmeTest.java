import java.io.IOException;
import java.nio.charset.StandardCharsets;
import java.nio.file.Files;
import java.nio.file.Path;
import java.util.regex.Matcher;
import java.util.regex.Pattern;

/** What README.md says: its example answers so, each call of the face is told, each test that it names is there. */
public final class ReadmeTest {
    private static final Pattern TYPED = Pattern.compile("\"([^\"]*)\"\\.toCharArray\\(\\)");
    private static final Pattern CALL = Pattern.compile("^box\\.(\\w+)\\(([-\\d, ]*)\\); *// (-?\\d+)");
    private static final Pattern TEST = Pattern.compile("`(\\w+Test)`");
    private static final Check CHECK = new Check("readme");

    public static void main(String[] args) throws IOException {
        String readme = Files.readString(Path.of("README.md"), StandardCharsets.UTF_8);
        example(readme);
        calls(readme);
        tests(readme);
        CHECK.end();
    }

    private static void example(String readme) {
        ThirdFavour box = new ThirdFavour();
        int answers = 0;
        for (String line : readme.split("\n")) {
            Matcher typed = TYPED.matcher(line);
            if (typed.find()) {
                Check.typeAll(box, typed.group(1));
            }
            Matcher call = CALL.matcher(line);
            if (call.find()) {
                answers++;
                long got = Calls.answer(box, Calls.numberOf(call.group(1)), numbers(call.group(2)));
                CHECK.due("the example's " + call.group(0), got, Long.parseLong(call.group(3)));
            }
        }
        CHECK.holds("the example has answers", answers > 20);
    }

    private static int[] numbers(String told) {
        int[] a = new int[5];
        String[] parts = told.isEmpty() ? new String[0] : told.split(", ");
        for (int i = 0; i < parts.length; i++) {
            a[i] = Integer.parseInt(parts[i]);
        }
        return a;
    }

    private static void calls(String readme) {
        for (int call = 0; call < Calls.NAMES.length; call++) {
            Pattern told = Pattern.compile("`" + Calls.NAMES[call] + "\\(((\\w+)(, \\w+)*)?\\)`");
            Matcher m = told.matcher(readme);
            boolean found = m.find();
            CHECK.holds(Calls.NAMES[call] + " is told", found);
            int arguments = found && m.group(1) != null ? m.group(1).split(", ").length : 0;
            CHECK.due("arguments of " + Calls.NAMES[call], arguments, Calls.ARGUMENTS[call]);
        }
    }

    private static void tests(String readme) {
        Matcher m = TEST.matcher(readme);
        int named = 0;
        while (m.find()) {
            named++;
            Path test = Path.of("src", "test", "java", m.group(1) + ".java");
            CHECK.holds(m.group(1) + " is there", Files.exists(test));
        }
        CHECK.holds("tests are named", named > 8);
    }
}
