/** Promise 7: pattern. */
public final class Promise07PatternTest {
    private static final int DONE = ParagraphSetter.DONE;
    private static final int FULL = ParagraphSetter.FULL;
    private static final int SYNTAX = ParagraphSetter.SYNTAX;

    private static final Checker check = new Checker("Promise07PatternTest");

    public static void main(String[] args) {
        becomesAPattern();
        levelsAtTheirPlaces();
        noDigit();
        emptyAfterwards();
        oneToFiveSigns();
        oneDigitAtAPlace();
        pointElsewhere();
        otherSigns();
        twentyPatterns();
        fullBeforeSyntax();
        faultyOnesTakeNoRoom();
        check.finish();
    }

    private static void points(String word, int want, String... patterns) {
        Counted x = check.made(400);
        for (String pattern : patterns) {
            check.pattern(x, pattern);
        }
        check.sets(x, word, word);
        check.due("points of \"" + word + "\" by " + String.join(" ", patterns), x.count(3), want);
    }

    private static void becomesAPattern() {
        check.sentence("The line becomes a PATTERN ...: its signs in order");
        points("aabb", 1, "a1b");
        points("aabb", 0, "b1a");
        points("aabb", 0, "a1c");
        points("abcdef", 1, "bc1de");
        points("abcdef", 0, "bd1ce");
        points("aabb", 1, "z1z", "a1b", "y1y");
        points("aabb", 1, ".aa1bb");
        points("xaabb", 0, ".aa1bb");
        points("aabb", 1, "a1bb.");
        points("aabbx", 0, "a1bb.");
    }

    private static void levelsAtTheirPlaces() {
        check.sentence("and before, between or behind them digits");
        for (int place = 0; place <= 5; place++) {
            Counted x = check.made(45 + 5 * place);
            check.width(x, 'x', 20);
            check.pattern(x, "abcde".substring(0, place) + "1" + "abcde".substring(place));
            // Without a space a line must be exact, so this is the only gap that will do.
            check.sets(x, "xxabcdeyy", "xx" + "abcde".substring(0, place) + "-", "abcde".substring(place) + "yy");
        }
        for (int level = 0; level <= 9; level++) {
            points("aabb", level % 2, "a" + level + "b");
        }
        points("aabcdd", 2, "a1b2c3d");
    }

    private static void noDigit() {
        check.sentence("(no digit: level 0)");
        points("aabb", 0, "ab");
        points("aabcdd", 1, "ab1cd", "bc");
        points("aaaaaaaa", 0, "aaaaa");
    }

    private static void emptyAfterwards() {
        check.sentence("The line ... is empty afterwards");
        Counted x = check.fresh();
        check.type(x, "1a2b3");
        check.due("pattern()", x.pattern(), 1);
        check.due("count(6)", x.count(6), 0);
        check.due("the next character", x.type('c'), 1);
    }

    private static void taken(String text) {
        Counted x = check.fresh();
        check.type(x, text);
        check.due("pattern() of \"" + text + "\"", x.pattern(), 1);
        check.due("the line behind it", x.count(6), 0);
        check.due("patterns", x.count(5), 1);
    }

    /** Refused as SYNTAX, with the line left and nothing learnt. */
    private static void faulty(String text) {
        Counted x = check.made(400);
        check.type(x, text);
        check.due("pattern() of \"" + text + "\"", x.pattern(), SYNTAX);
        check.due("the line stays", x.count(6), text.length());
        check.due("patterns", x.count(5), 0);
        check.due("define(0) of what stayed", x.define(0), DONE);
        // Nor do its levels show in the next one.
        check.pattern(x, "zzzzz");
        check.paragraph(x, "aaaaabcdef zzzzzzzzzz", 1);
        check.due("points", x.count(3), 0);
    }

    private static void oneToFiveSigns() {
        check.sentence("or doesn't have 1 .. 5 signs: SYNTAX");
        for (String text : new String[] {"a", "z", ".", "1a", "a1", "abcde", ".abcd", "abcd.", ".abc.", "1a2b3c4d5e6"}) {
            taken(text);
        }
        for (String text : new String[] {"", "1", "0", "abcdef", ".abcde", "abcde.", ".abcd.", "1a2b3c4d5e6f7",
            "a".repeat(24), "a1".repeat(6)}) {
            faulty(text);
        }
        Counted x = check.fresh();
        check.type(x, "a".repeat(60));
        check.due("pattern() of 60 signs", x.pattern(), SYNTAX);
        check.due("the line stays", x.count(6), 60);
    }

    private static void oneDigitAtAPlace() {
        check.sentence("digits, at most one at each place");
        for (String text : new String[] {"0a", "9a", "a0", "a9", "1a1", "a1b", "0a0b0c0d0e0", "9.9a9.9"}) {
            taken(text);
        }
        for (String text : new String[] {"11a", "a11", "a11b", "00a", "a00", "a10b", "1", "12", "123a", "abcde12", "1a2b3c4d5e67"}) {
            faulty(text);
        }
    }

    private static void pointElsewhere() {
        check.sentence("or a point elsewhere than at its beginning or end: SYNTAX");
        for (String text : new String[] {".", ".a", "a.", ".a.", "1.a", "a.1", ".1a", "a1.", "..", ".1."}) {
            taken(text);
        }
        for (String text : new String[] {"a.a", "...", "..a", "a..", "a1.1a", "ab.c", ".a.a", "a.b.", "1..1a", "...."}) {
            faulty(text);
        }
    }

    private static void otherSigns() {
        check.sentence("it isn't like that ...: SYNTAX");
        for (char c : "ABCD -~|{}#=".toCharArray()) {
            faulty("" + c);
            faulty("a" + c);
            faulty(c + "a");
            faulty("a1" + c + "2b");
        }
    }

    private static Counted withTwenty() {
        Counted x = check.made(400);
        for (int k = 1; k <= 20; k++) {
            check.due("type", x.type('a'), 1);
            check.due("pattern, the " + k + "th", x.pattern(), k);
            check.due("patterns", x.count(5), k);
        }
        return x;
    }

    private static void twentyPatterns() {
        check.sentence("20 are there: FULL; ... the line stays. Answers how many there are");
        Counted x = withTwenty();
        check.type(x, "1b");
        check.due("the 21st", x.pattern(), FULL);
        check.due("the line stays", x.count(6), 2);
        check.due("patterns", x.count(5), 20);
        x.wipe();
        check.sets(x, "bbbb", "bbbb");
        check.due("points", x.count(3), 0);
    }

    private static void fullBeforeSyntax() {
        check.sentence("20 are there: FULL; it isn't like that ...: SYNTAX");
        Counted x = withTwenty();
        check.due("pattern() with an empty line", x.pattern(), FULL);
        check.type(x, "1b#");
        check.due("a faulty one", x.pattern(), FULL);
        check.due("the line stays", x.count(6), 3);
    }

    private static void faultyOnesTakeNoRoom() {
        check.sentence("Answers how many there are - faulty ones are not");
        Counted x = check.made(400);
        for (int k = 1; k <= 3; k++) {
            check.type(x, "a.a");
            check.due("a faulty one", x.pattern(), SYNTAX);
            x.wipe();
            check.type(x, "1a");
            check.due("pattern()", x.pattern(), k);
        }
        check.due("patterns", x.count(5), 3);
    }
}
