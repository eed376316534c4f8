/** Promise 10: line. */
public final class Promise10LineTest {
    private static final int REFUSED = ParagraphSetter.REFUSED;

    private static final Checker check = new Checker("Promise10LineTest");

    public static void main(String[] args) {
        breaksAndKinds();
        naturals();
        differences();
        badnesses();
        badnessByTolerance();
        letters();
        noSuchLine();
        linesOfAnEarlierSetting();
        anotherWhat();
        asItWasWhenMade();
        check.finish();
    }

    private static void breaksAndKinds() {
        check.sentence("the number of the break at its end (what 0) and its kind (1)");
        Counted x = check.made(15);
        check.pattern(x, "b1c");
        check.sets(x, "bbb bb-bbcc|bbb", "bbb", "bb-", "bb-", "cc", "bbb");
        for (int i = 0; i < 5; i++) {
            check.told(x, i, i + 1, i);
        }
        check.sets(x, "a a b|c-d", "a a", "b", "c-d");
        check.told(x, 0, 2, 0);
        check.told(x, 1, 3, 3);
        check.told(x, 2, 5, 4);
    }

    private static void naturals() {
        check.sentence("NATURAL (2)");
        Counted x = check.made(23);
        check.pattern(x, "b1c");
        check.width(x, '-', 3);
        check.sets(x, "aabbcccc|aabb-cc|=9b~b", "aabb-", "cccc", "aabb-", "cc", "b b");
        check.due("with the - of a point", x.line(0, 2), 23);
        check.due("with a - of the text", x.line(2, 2), 23);
        check.due("without a -", x.line(3, 2), 10);
        check.due("with a ~", x.line(4, 2), 19);
    }

    private static void differences() {
        check.sentence("D (3)");
        Counted x = check.made(17);
        check.sets(x, "=7a~a|b|=8a~a|=9a~a", "a a", "b", "a a", "a a");
        int[] want = {0, 12, -1, -2};
        for (int i = 0; i < want.length; i++) {
            check.due("line(" + i + ", 3)", x.line(i, 3), want[i]);
        }
    }

    private static void badnesses() {
        check.sentence("BADNESS (4)");
        Counted x = check.made(60);
        // 45 for nine letters and 9 + 9: 3 too much, of 3 + 3 to shrink.
        check.sets(x, "=9aaa bbb ccc ddd", "aaa bbb ccc", "ddd");
        check.told(x, 0, 3, 0, 63, -3, 12, 9);
        check.told(x, 1, 4, 4, 15, 45, 0, 3);
        check.parameter(x, 0, 61);
        check.sets(x, "=9aaa bbb~cc ddd", "aaa bbb cc", "ddd");
        check.told(x, 0, 2, 0, 58, 3, 2, 8);
        check.parameter(x, 0, 40);
        check.pattern(x, "b1c");
        check.width(x, '-', 3);
        check.sets(x, "=9aa aabbccdd", "aa aabb-", "ccdd");
        check.told(x, 0, 2, 2, 42, -2, 29, 6);
        check.told(x, 1, 3, 4, 20, 20, 0, 4);
        check.parameter(x, 0, 60);
        check.sets(x, "a b|=9c~d", "a b", "c d");
        check.told(x, 0, 2, 3, 14, 46, 0, 2);
        check.told(x, 1, 3, 4, 19, 41, 0, 2);
        check.parameter(x, 0, 17);
        check.sets(x, "=9c~d|=9c d", "c d", "c d");
        check.told(x, 0, 1, 3, 19, -2, 29, 2);
        check.told(x, 1, 3, 4, 19, -2, 29, 2);
    }

    private static void badnessByTolerance() {
        check.sentence("BADNESS (4), up to the greatest TOLERANCE");
        Counted x = check.made(24, 10000);
        int[] badness = {0, 12, 100, 337, 800, 1562, 2700, 4287, 6400, 9112};
        for (int d = 0; d < badness.length; d++) {
            check.parameter(x, 0, 24 + d);
            check.sets(x, "aa bb cc", "aa bb", "cc");
            check.told(x, 0, 2, 0, 24, d, badness[d], 4);
        }
    }

    private static void letters() {
        check.sentence("letters (5)");
        Counted x = check.made(400);
        check.width(x, 'z', 1);
        check.sets(x, "-", "-");
        check.due("none", x.line(0, 5), 0);
        check.sets(x, "~-~a-|ab c~d", " - a-", "ab c d");
        check.due("one", x.line(0, 5), 1);
        check.due("four", x.line(1, 5), 4);
        check.define(x, 'A', "z".repeat(24));
        check.paragraph(x, "AAAAA", 1);
        check.due("120", x.line(0, 5), 120);
        check.due("the - of a break is none", twoLines().line(0, 5), 6);
    }

    private static Counted twoLines() {
        Counted x = check.made(40);
        check.pattern(x, "b1c");
        check.width(x, '-', 3);
        check.sets(x, "=9aa aabbccdd", "aa aabb-", "ccdd");
        return x;
    }

    private static void noSuchLine() {
        check.sentence("No such line ...: REFUSED");
        Counted x = twoLines();
        for (int i : new int[] {-1, -2, 2, 3, 23, 24, 25, Integer.MIN_VALUE, Integer.MAX_VALUE}) {
            for (int what = -1; what <= 6; what++) {
                check.due("line(" + i + ", " + what + ")", x.line(i, what), REFUSED);
            }
        }
        Counted y = check.fresh();
        for (int what = -1; what <= 6; what++) {
            check.due("line(0, " + what + ") without a setting", y.line(0, what), REFUSED);
        }
        check.paragraph(x, "a|".repeat(24), 24);
        check.due("line(23, 0)", x.line(23, 0), 24);
        check.due("line(24, 0)", x.line(24, 0), REFUSED);
    }

    private static void linesOfAnEarlierSetting() {
        check.sentence("Of line i of the latest SETTING");
        Counted x = twoLines();
        check.sets(x, "a", "a");
        check.told(x, 0, 1, 4, 5, 35, 0, 1);
        check.due("line(1, 0)", x.line(1, 0), REFUSED);
        check.paragraph(x, "", 0);
        check.due("line(0, 0)", x.line(0, 0), REFUSED);
    }

    private static void anotherWhat() {
        check.sentence("another what: REFUSED");
        Counted x = twoLines();
        for (int i = 0; i < 2; i++) {
            check.due("line(" + i + ", -1)", x.line(i, -1), REFUSED);
            check.due("line(" + i + ", 6)", x.line(i, 6), REFUSED);
            for (int far : Checker.FAR) {
                check.due("line(" + i + ", " + far + ")", x.line(i, far), REFUSED);
            }
        }
    }

    private static void asItWasWhenMade() {
        check.sentence("What is told of a SETTING goes by the WIDTHS and PARAMETERS as they were when it was made");
        Counted x = twoLines();
        for (int i = 0; i < 5; i++) {
            check.parameter(x, i, i == 0 ? 10 : 0);
        }
        for (char c : "abcd-".toCharArray()) {
            check.width(x, c, 20);
        }
        check.pattern(x, "1a");
        check.define(x, 'A', "b");
        check.type(x, "zz");
        check.told(x, 0, 2, 2, 42, -2, 29, 6);
        check.told(x, 1, 3, 4, 20, 20, 0, 4);
    }
}
