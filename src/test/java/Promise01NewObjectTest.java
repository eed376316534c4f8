/** Promise 1: what a new object has, and the first values of "Terms". */
public final class Promise01NewObjectTest {
    private static final int REFUSED = ParagraphSetter.REFUSED;
    private static final int SYNTAX = ParagraphSetter.SYNTAX;
    private static final int OVERFULL = ParagraphSetter.OVERFULL;

    private static final Checker check = new Checker("Promise01NewObjectTest");

    public static void main(String[] args) {
        noMacros();
        noPatterns();
        emptyLine();
        noSetting();
        firstWidths();
        firstMeasureAndLine();
        firstTolerance();
        firstHyphenAndDouble();
        nothingInCommon();
        check.finish();
    }

    private static void noMacros() {
        check.sentence("No macros");
        for (char macro = 'A'; macro <= 'D'; macro++) {
            check.paragraph(check.fresh(), "" + macro, SYNTAX);
        }
    }

    private static void noPatterns() {
        check.sentence("No ... patterns");
        Counted x = check.fresh();
        check.due("count(5)", x.count(5), 0);
        check.sets(x, "aaaaaaaaaaaa", "aaaaaaaaaaaa");
        check.due("HYPHENATION POINTS", x.count(3), 0);
        check.type(x, "a");
        check.due("the first pattern()", x.pattern(), 1);
    }

    private static void emptyLine() {
        check.sentence("an empty line");
        check.due("count(6)", check.fresh().count(6), 0);
        check.due("type('a')", check.fresh().type('a'), 1);
        check.due("paragraph()", check.fresh().paragraph(), 0);
        check.due("pattern()", check.fresh().pattern(), SYNTAX);
        check.due("define(0)", check.fresh().define(0), ParagraphSetter.DONE);
    }

    private static void noSetting() {
        check.sentence("no setting");
        Counted x = check.fresh();
        for (int what = 0; what <= 4; what++) {
            check.due("count(" + what + ")", x.count(what), 0);
        }
        check.due("cost()", x.cost(), 0);
        for (int what = 0; what <= 5; what++) {
            check.due("line(0, " + what + ")", x.line(0, what), REFUSED);
        }
        check.due("character(0, 0)", x.character(0, 0), REFUSED);
        check.due("place(0, 0)", x.place(0, 0), REFUSED);
    }

    private static void firstWidths() {
        check.sentence("WIDTHS: of each letter and of the character -, ... at first 5");
        for (char c : "abcdefghijklmnopqrstuvwxyz-".toCharArray()) {
            Counted x = check.fresh();
            check.sets(x, "" + c, "" + c);
            check.due("NATURAL of " + c, x.line(0, 2), 5);
        }
    }

    private static void firstMeasureAndLine() {
        check.sentence("0 MEASURE ..., 60; ... 2 LINE ..., 10");
        Counted x = check.fresh();
        check.sets(x, "az-~a a", "az- a a");
        check.told(x, 0, 3, 4, 33, 27, 0, 4);
        check.due("cost()", x.cost(), 100);
    }

    private static void firstTolerance() {
        check.sentence("1 TOLERANCE ..., 200");
        Counted x = check.made(26);
        // A space of 4 stretches by 2: 2 more are a badness of 100, 3 more one of 337.
        check.sets(x, "aa bb c", "aa bb", "c");
        check.told(x, 0, 2, 0, 24, 2, 100, 4);
        check.parameter(x, 0, 27);
        check.paragraph(x, "aa bb c", OVERFULL);
    }

    private static void firstHyphenAndDouble() {
        check.sentence("3 HYPHEN ..., 50; 4 DOUBLE ..., 0");
        Counted x = check.made(25);
        check.pattern(x, "b1c");
        check.pattern(x, "d1e");
        check.sets(x, "aabbccddeeff", "aabb-", "ccdd-", "eeff");
        check.due("cost()", x.cost(), 2600 + 2600 + 100);
    }

    private static void nothingInCommon() {
        check.sentence("A new object, beside one that has been used");
        Counted x = check.made(99, 99, 99, 99, 99);
        check.define(x, 'A', "a");
        check.pattern(x, "1a");
        check.width(x, 'a', 9);
        check.sets(x, "A", "a");
        check.type(x, "b");
        Counted y = check.fresh();
        check.same("another object", Checker.seen(y), Checker.NOTHING_SEEN);
        check.paragraph(y, "A", SYNTAX);
        check.sets(y, "aaaa", "aaaa");
        check.told(y, 0, 1, 4, 20, 40, 0, 4);
        check.due("HYPHENATION POINTS", y.count(3), 0);
        check.due("cost()", y.cost(), 100);
    }
}
