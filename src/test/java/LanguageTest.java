import java.io.IOException;
import java.lang.reflect.Constructor;
import java.lang.reflect.Field;
import java.lang.reflect.Method;
import java.lang.reflect.Modifier;
import java.nio.file.Files;
import java.nio.file.Path;
import java.util.ArrayList;
import java.util.List;
import java.util.regex.Matcher;
import java.util.regex.Pattern;

/** What ../shared/LANGUAGE.md leaves out does not stand in the program; what it allows is no fault here. */
public final class LanguageTest {
    private static final String PROGRAM = "src/main/java/ParagraphSetter.java";
    /** A rule's number, and what must not be found in the program. */
    private static final String[][] LEFT_OUT = {
        {"0", "\\bpackage\\b"},
        {"2", "::"},
        {"2", "\\bnew \\w+\\([^()]*\\)\\s*\\{"},
        {"2", "(?m)^(?!\\s*(case\\b|default\\b)).*->"},
        {"4", "\\bimport (?!java\\.util\\.(ArrayList|List|Arrays|Iterator|\\*)\\s*;)"},
        {"4", "\\bjava\\.(?!util\\.|lang\\.)"},
        {"4", "\\bSystem\\b(?!\\.arraycopy\\()"},
        {"4", "\\.\\w+Exact\\("},
        {"4", "\\bString\\.\\w+\\(|\\.getClass\\("},
        {"5", "\\bstatic\\s*\\{"},
        {"6", "\\b(throw|throws|try|catch|finally|synchronized|assert)\\b"},
        {"6", "\\bhashCode\\b|\\bboolean equals\\(|\\bString toString\\("},
        {"13", "\\b(Thread|ProcessBuilder|Runtime)\\b|\\.random\\("},
    };
    private static final int PARAMETERS = 7;
    private static final int CLASSES = 12;
    private static final int FIELDS = 20;
    private static final int LINES = 60;

    private static final Checker check = new Checker("LanguageTest");

    public static void main(String[] args) throws IOException {
        String source = Files.readString(Path.of(PROGRAM))
            .replaceAll("(?s)/\\*.*?\\*/", "").replaceAll("//[^\n]*", "")
            .replaceAll("'(\\\\.|[^\\\\'])'", "0").replaceAll("\"(\\\\.|[^\\\\\"])*\"", "0");
        for (String[] rule : LEFT_OUT) {
            Matcher found = Pattern.compile(rule[1]).matcher(source);
            check.that("rule " + rule[0] + ": no " + rule[1], !found.find());
        }
        shortMethods(source);
        List<Class<?>> all = new ArrayList<>();
        collect(ParagraphSetter.class, all);
        check.that("rule 11: at most twelve classes, there are " + all.size(), all.size() <= CLASSES);
        for (Class<?> one : all) {
            classOf(one);
        }
        check.finish();
    }

    private static void collect(Class<?> one, List<Class<?>> all) {
        all.add(one);
        for (Class<?> inside : one.getDeclaredClasses()) {
            int modifiers = inside.getModifiers();
            check.that("rule 2: " + inside.getName() + " is static", Modifier.isStatic(modifiers));
            check.that("rule 1: " + inside.getName() + " is private or package-visible",
                !Modifier.isPublic(modifiers) && !Modifier.isProtected(modifiers));
            collect(inside, all);
        }
    }

    private static void classOf(Class<?> one) {
        int fields = 0;
        for (Field field : one.getDeclaredFields()) {
            if (field.isSynthetic()) {
                continue;
            }
            boolean isStatic = Modifier.isStatic(field.getModifiers());
            check.that("rule 5: " + field + " is final", !isStatic || Modifier.isFinal(field.getModifiers()));
            fields += isStatic ? 0 : 1;
        }
        check.that("rule 11: at most twenty fields in " + one.getName(), fields <= FIELDS);
        for (Method method : one.getDeclaredMethods()) {
            check.that("rule 11: at most seven parameters of " + method, method.getParameterCount() <= PARAMETERS);
        }
        for (Constructor<?> constructor : one.getDeclaredConstructors()) {
            check.that("rule 11: at most seven parameters of " + constructor,
                constructor.getParameterCount() <= PARAMETERS);
        }
    }

    /** A method begins with a line that ends in ") {" and ends with a brace as far from the margin. */
    private static void shortMethods(String source) {
        Matcher method = Pattern.compile("(?m)^( {4}| {8})(?!return|if|for|while|switch|else|do)\\w[^\n;=]*\\) \\{\n").matcher(source);
        int methods = 0;
        while (method.find()) {
            methods++;
            int end = source.indexOf("\n" + method.group(1) + "}", method.end() - 1);
            long lines = source.substring(method.start(), Math.max(end, method.end())).lines().count();
            check.that("rule 11: a short method: " + method.group().strip(), end >= 0 && lines <= LINES);
        }
        check.that("methods are found", methods > 12);
    }
}
