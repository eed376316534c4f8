import java.io.IOException;
import java.nio.file.Files;
import java.nio.file.Path;
import java.util.regex.Pattern;

/** Words and signs that ../shared/LANGUAGE.md leaves out do not stand in the program. */
public final class LanguageTest {
    private static final String PROGRAM = "src/main/java/ParagraphSetter.java";
    private static final String[] LEFT_OUT = {
        "\\bpackage\\b", "\\bimport\\b", "\\bthrows?\\b", "\\btry\\b", "\\bcatch\\b", "\\bsynchronized\\b", "\\bassert\\b",
        "\\bprotected\\b", "\\bjava\\.", "\\bSystem\\b(?!\\.arraycopy)", "\\bThread\\b", "\\bRandom\\b", "\\brandom\\b", "\\w+Exact\\b",
        "->", "::", "static\\s*\\{", "\\bnew \\w+\\([^)]*\\)\\s*\\{", "\\bequals\\b", "\\bhashCode\\b", "\\btoString\\b",
        "\\bdouble\\b", "\\bfloat\\b", "@\\w+", "\\bstatic (?!final|boolean|int|long|void|class)",
    };

    public static void main(String[] args) throws IOException {
        Checker check = new Checker("LanguageTest");
        String source = Files.readString(Path.of(PROGRAM))
            .replaceAll("(?s)/\\*.*?\\*/", "").replaceAll("//[^\n]*", "").replaceAll("'.'", "0");
        for (String word : LEFT_OUT) {
            check.that("no " + word, !Pattern.compile(word).matcher(source).find());
        }
        check.that("classes inside are private and static",
            Pattern.compile("(?m)^(?!    private static final class|public final class).*\\bclass\\b").matcher(source)
                .results().count() == 0);
        check.that("at most twelve classes", Pattern.compile("\\bclass\\b").matcher(source).results().count() <= 12);
        check.finish();
    }
}
