/** Promises 1 to 7 and 14: the line, and what it is made into before a paragraph is set. */
public final class LineTest {
    private static final int REFUSED = ParagraphSetter.REFUSED;
    private static final int FULL = ParagraphSetter.FULL;
    private static final int SYNTAX = ParagraphSetter.SYNTAX;
    private static final int DONE = ParagraphSetter.DONE;
    private static final String OF_LINE = "abcdefghijklmnopqrstuvwxyzABCD0123456789 -~|{}#=.";
    private static final int[] EXTREMES = {Integer.MIN_VALUE, Integer.MAX_VALUE, -1};

    private static final Checker check = new Checker("LineTest");

    public static void main(String[] args) {
        newObject();
        firstValues();
        type();
        wipe();
        width();
        parameter();
        parametersInEffect();
        define();
        patternsTaken();
        patternsRefused();
        patternRoom();
        orderOfDefine();
        check.finish();
    }

    private static void newObject() {
        Counted x = check.fresh();
        for (int what = 0; what <= 6; what++) {
            check.due("new: count(" + what + ")", x.count(what), 0);
        }
        check.due("new: cost()", x.cost(), 0);
        check.due("new: line(0, 0)", x.line(0, 0), REFUSED);
        check.due("new: character(0, 0)", x.character(0, 0), REFUSED);
        check.due("new: place(0, 0)", x.place(0, 0), REFUSED);
        for (String macro : "A B C D".split(" ")) {
            check.paragraph(x, macro, SYNTAX);
        }
        check.paragraph(x, "aaaaaa", 1);
        check.due("new: hyphenation points", x.count(3), 0);
    }

    private static void firstValues() {
        Counted x = check.fresh();
        check.paragraph(x, "az-~a a", 1);
        check.told(x, 0, 3, 4, 33, 27, 0, 4);
        check.due("the first LINE: cost()", x.cost(), 100);
        check.pattern(x, "b1c");
        check.pattern(x, "d1e");
        check.due("a measure for two hyphens", x.parameter(0, 25), DONE);
        check.paragraph(x, "aabbccddeeff", 3);
        check.due("the first HYPHEN and DOUBLE: cost()", x.cost(), 2600 + 2600 + 100);
        // A space of 4 stretches by 2: 2 more are a badness of 100, 3 more one of 337.
        check.due("measure", x.parameter(0, 26), DONE);
        check.paragraph(x, "aa bb c", 2);
        check.told(x, 0, 2, 0, 24, 2, 100, 4);
        check.due("measure", x.parameter(0, 27), DONE);
        check.paragraph(x, "aa bb c", -5);
    }

    private static void type() {
        for (int c = -300; c <= 700; c++) {
            boolean isOne = c >= 0 && OF_LINE.indexOf(c) >= 0;
            check.due("type(" + c + ")", check.fresh().type(c), isOne ? 1 : REFUSED);
        }
        Counted x = check.fresh();
        for (int extreme : EXTREMES) {
            check.due("type(" + extreme + ")", x.type(extreme), REFUSED);
        }
        for (int k = 1; k <= 60; k++) {
            check.due("type, the character " + k, x.type('a'), k);
        }
        check.due("type on a full line", x.type('a'), FULL);
        check.due("a wrong one is seen first", x.type('E'), REFUSED);
        check.due("length of a full line", x.count(6), 60);
    }

    private static void wipe() {
        Counted x = check.fresh();
        check.due("wipe of an empty line", x.wipe(), DONE);
        check.type(x, "ab{");
        check.due("wipe", x.wipe(), DONE);
        check.due("length behind wipe", x.count(6), 0);
        check.paragraph(x, "c", 1);
        check.lines(x, "c");
        check.due("wipe leaves the setting", x.wipe(), DONE);
        check.lines(x, "c");
    }

    private static void width() {
        Counted x = check.fresh();
        for (int c = 'a'; c <= 'z'; c++) {
            check.due("width of " + (char) c, x.width(c, 20), DONE);
        }
        check.due("width of a", x.width('a', 1), DONE);
        check.due("width of b", x.width('b', 7), DONE);
        check.due("width of -", x.width('-', 13), DONE);
        check.due("too narrow", x.width('b', 0), REFUSED);
        check.due("too wide", x.width('b', 21), REFUSED);
        for (int extreme : EXTREMES) {
            check.due("width(b, " + extreme + ")", x.width('b', extreme), REFUSED);
            check.due("width(" + extreme + ", 5)", x.width(extreme, 5), REFUSED);
        }
        for (char c : "`{AZ~ |.#=}01@".toCharArray()) {
            check.due("width of " + c, x.width(c, 5), REFUSED);
        }
        check.paragraph(x, "abz-", 1);
        check.told(x, 0, 1, 4, 1 + 7 + 20 + 13);
    }

    private static void parameter() {
        int[][] ranges = {{10, 400}, {0, 10000}, {0, 100}, {0, 200}, {0, 10000}};
        for (int i = 0; i < ranges.length; i++) {
            Counted x = check.fresh();
            check.due("parameter " + i + " below", x.parameter(i, ranges[i][0] - 1), REFUSED);
            check.due("parameter " + i + " least", x.parameter(i, ranges[i][0]), DONE);
            check.due("parameter " + i + " most", x.parameter(i, ranges[i][1]), DONE);
            check.due("parameter " + i + " above", x.parameter(i, ranges[i][1] + 1), REFUSED);
            for (int extreme : EXTREMES) {
                check.due("parameter(" + i + ", " + extreme + ")", x.parameter(i, extreme), REFUSED);
                check.due("parameter(" + extreme + ", 10)", x.parameter(extreme, 10), REFUSED);
            }
            check.due("parameter(5, 10)", x.parameter(5, 10), REFUSED);
        }
    }

    private static void parametersInEffect() {
        Counted x = check.fresh();
        check.pattern(x, "b1c");
        check.pattern(x, "d1e");
        int[] values = {25, 0, 3, 4, 5};
        for (int i = 0; i < values.length; i++) {
            check.due("parameter " + i, x.parameter(i, values[i]), DONE);
        }
        check.due("a refused one changes nothing", x.parameter(0, 401), REFUSED);
        check.due("a refused one changes nothing", x.parameter(2, 101), REFUSED);
        check.paragraph(x, "aabbccddeeff", 3);
        check.lines(x, "aabb-", "ccdd-", "eeff");
        // The last line begins at a hyphen, but does not end at one: no DOUBLE for it.
        check.due("cost()", x.cost(), (9 + 16) + (9 + 16 + 5) + 9);
    }

    private static void define() {
        Counted x = check.fresh();
        check.define(x, 'A', "ab");
        check.due("length behind define", x.count(6), 0);
        check.paragraph(x, "A", 1);
        check.lines(x, "ab");
        check.define(x, 'A', "cd");
        check.define(x, 'D', "ef");
        check.paragraph(x, "AD", 1);
        check.lines(x, "cdef");
        check.define(x, 'B', "");
        check.paragraph(x, "aBb", 1);
        check.lines(x, "ab");
        check.define(x, 'C', "=}#{.0");
        check.paragraph(x, "Ca", SYNTAX);
        check.define(x, 'B', "abcdefghijklmnopqrstuvwx");
        check.due("a measure for a long line", x.parameter(0, 400), DONE);
        check.type(x, "abcdefghijklmnopqrstuvwxy");
        check.due("define with 25 characters", x.define(1), FULL);
        check.due("the line stays", x.count(6), 25);
        check.due("paragraph", x.paragraph(), 1);
        check.lines(x, "abcdefghijklmnopqrstuvwxy");
        check.paragraph(x, "B", 1);
        check.lines(x, "abcdefghijklmnopqrstuvwx");
        check.type(x, "zz");
        for (int m : new int[] {-1, 4, Integer.MIN_VALUE, Integer.MAX_VALUE}) {
            check.due("define(" + m + ")", x.define(m), REFUSED);
            check.due("the line stays", x.count(6), 2);
        }
    }

    private static void patternsTaken() {
        String[] good = {"a", ".", "..", ".a.", "1.a", "a.9", "0a0", "1a2b3c4d5e6", ".abc.", "abcde", ".abcd", "z9", "9z"};
        Counted x = check.fresh();
        for (int k = 0; k < good.length; k++) {
            check.pattern(x, good[k]);
            check.due("length behind pattern", x.count(6), 0);
        }
        check.due("patterns", x.count(5), good.length);
    }

    private static void patternsRefused() {
        String[] bad = {"", "1", "9", "12", "11a", "a11", "a00b", "abcdef", "1a2b3c4d5e6f", ".abcde", ".abcd.", "a.b",
            "..a", "a..", "...", "a.1b", "aA", "A", "a b", " ", "a-", "a~b", "a|", "{a}", "#", "a=1"};
        Counted x = check.fresh();
        for (String text : bad) {
            check.type(x, text);
            check.due("pattern \"" + text + "\"", x.pattern(), SYNTAX);
            check.due("the line stays", x.count(6), text.length());
            check.due("patterns", x.count(5), 0);
            x.wipe();
        }
        check.type(x, "a1.b");
        check.due("pattern", x.pattern(), SYNTAX);
        check.type(x, "c");
        check.due("the line stays", x.count(6), 5);
        x.wipe();
        // What a refused pattern had must not show in the next one.
        check.type(x, "1a3b5.c");
        check.due("pattern", x.pattern(), SYNTAX);
        x.wipe();
        check.pattern(x, "ab");
        check.paragraph(x, "aabab", 1);
        check.due("hyphenation points", x.count(3), 0);
    }

    private static void patternRoom() {
        Counted x = check.fresh();
        for (int k = 0; k < 20; k++) {
            check.pattern(x, "a1a");
        }
        check.type(x, "bb");
        check.due("the 21st", x.pattern(), FULL);
        check.due("the line stays", x.count(6), 2);
        check.type(x, "#");
        check.due("FULL is seen before SYNTAX", x.pattern(), FULL);
        check.due("the line stays", x.count(6), 3);
        check.due("patterns", x.count(5), 20);
    }

    private static void orderOfDefine() {
        Counted x = check.fresh();
        check.type(x, "abcdefghijklmnopqrstuvwxy");
        check.due("a wrong m with a long line", x.define(4), REFUSED);
        check.due("a wrong m with a long line", x.define(-1), REFUSED);
        check.due("a right m with a long line", x.define(3), FULL);
        check.due("the line stays", x.count(6), 25);
    }
}
