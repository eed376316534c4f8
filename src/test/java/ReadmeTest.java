import java.io.IOException;
import java.nio.file.Files;
import java.nio.file.Path;
import java.util.HashMap;
import java.util.Map;
import java.util.regex.Matcher;
import java.util.regex.Pattern;

/** The example in README.md answers what the comments beside it say. */
public final class ReadmeTest {
    private static final Pattern TYPED = Pattern.compile("for \\(char c : \"(.*)\"\\.toCharArray\\(\\)\\) x\\.type\\(c\\);");
    private static final Pattern CALL = Pattern.compile("x\\.(\\w+)\\((?:(\\d+)(?:, (\\d+))?)?\\); +// (\\d+).*");

    private interface Call {
        long of(int p, int q);
    }

    public static void main(String[] args) throws IOException {
        Checker check = new Checker("ReadmeTest");
        Counted x = check.fresh();
        Map<String, Call> calls = new HashMap<>();
        calls.put("pattern", (p, q) -> x.pattern());
        calls.put("define", (p, q) -> x.define(p));
        calls.put("parameter", (p, q) -> x.parameter(p, q));
        calls.put("paragraph", (p, q) -> x.paragraph());
        calls.put("line", (p, q) -> x.line(p, q));
        calls.put("character", (p, q) -> x.character(p, q));
        calls.put("place", (p, q) -> x.place(p, q));
        calls.put("count", (p, q) -> x.count(p));
        calls.put("cost", (p, q) -> x.cost());
        int read = 0;
        for (String line : example()) {
            Matcher typed = TYPED.matcher(line);
            Matcher call = CALL.matcher(line);
            if (typed.matches()) {
                check.type(x, typed.group(1));
            } else if (call.matches() && calls.containsKey(call.group(1))) {
                read++;
                long got = calls.get(call.group(1)).of(number(call.group(2)), number(call.group(3)));
                check.due(line, got, number(call.group(4)));
            } else {
                check.that("a line that can be read: " + line,
                    line.isEmpty() || line.equals("ParagraphSetter x = new ParagraphSetter();"));
            }
        }
        check.due("calls in the example", read, calls.size());
        check.lines(x, "aabb-", "ccdd");
        check.finish();
    }

    private static String[] example() throws IOException {
        String text = Files.readString(Path.of("README.md"));
        int begin = text.indexOf("```java\n") + "```java\n".length();
        return text.substring(begin, text.indexOf("```", begin)).split("\n");
    }

    private static int number(String digits) {
        return digits == null ? 0 : Integer.parseInt(digits);
    }
}
