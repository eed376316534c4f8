/** Promises 8 to 13: the lines that are chosen, and what is told of them. */
public final class SettingTest {
    private static final int REFUSED = ParagraphSetter.REFUSED;
    private static final int OVERFULL = ParagraphSetter.OVERFULL;
    private static final Checker check = new Checker("SettingTest");

    public static void main(String[] args) {
        shrunkLine();
        stretchedLine();
        looseLines();
        hyphenLine();
        toleranceEdges();
        shrinkEdges();
        rounding();
        leastCost();
        hyphenPrice();
        doublePrice();
        fewestLines();
        leastBreaks();
        blankBehindDash();
        bars();
        linesWithoutLetters();
        laterChanges();
        outOfRange();
        largeCost();
        counts();
        check.finish();
    }

    private static Counted made(int... values) {
        Counted x = check.fresh();
        for (int i = 0; i < values.length; i++) {
            check.due("parameter " + i, x.parameter(i, values[i]), 0);
        }
        return x;
    }

    private static void shrunkLine() {
        Counted x = made(60);
        // 45 for nine letters and 9 + 9: 3 too much, of 3 + 3 to shrink.
        check.paragraph(x, "=9aaa bbb ccc ddd", 2);
        check.lines(x, "aaa bbb ccc", "ddd");
        check.told(x, 0, 3, 0, 63, -3, 12, 9);
        check.told(x, 1, 4, 4, 15, 45, 0, 3);
        check.due("cost()", x.cost(), 22 * 22 + 100);
        // 3 * 3 / 6 less is 1 and a half less: rounded down, 2 less.
        check.places(x, 0, 0, 5, 10, 15, 22, 27, 32, 37, 45, 50, 55);
        check.places(x, 1, 0, 5, 10);
    }

    private static void stretchedLine() {
        Counted x = made(61);
        check.paragraph(x, "=9aaa bbb~cc ddd", 2);
        check.lines(x, "aaa bbb cc", "ddd");
        check.told(x, 0, 2, 0, 58, 3, 2, 8);
        check.due("cost()", x.cost(), 12 * 12 + 100);
        // 3 * 5 / 10 more, rounded down: 1.
        check.places(x, 0, 0, 5, 10, 15, 25, 30, 35, 40, 51, 56);
    }

    private static void looseLines() {
        Counted x = made(60);
        check.paragraph(x, "a b|=9c~d", 2);
        check.told(x, 0, 2, 3, 14, 46, 0, 2);
        check.told(x, 1, 3, 4, 19, 41, 0, 2);
        check.places(x, 0, 0, 5, 9);
        check.places(x, 1, 0, 5, 14);
        check.due("cost()", x.cost(), 200);
        check.due("measure", x.parameter(0, 25), 0);
        check.paragraph(x, "aa bb", 1);
        check.told(x, 0, 2, 4, 24, 1, 0, 4);
        check.places(x, 0, 0, 5, 10, 14, 19);
        // Too long, the last line is shrunk like the others.
        check.due("measure", x.parameter(0, 17), 0);
        check.paragraph(x, "=9c~d|=9c d", 2);
        check.told(x, 0, 1, 3, 19, -2, 29, 2);
        check.told(x, 1, 3, 4, 19, -2, 29, 2);
        check.places(x, 0, 0, 5, 12);
        check.places(x, 1, 0, 5, 12);
        check.due("cost()", x.cost(), 2 * 39 * 39);
    }

    private static void hyphenLine() {
        Counted x = made(40);
        check.pattern(x, "b1c");
        check.due("width", x.width('-', 3), 0);
        // Six letters, a space of 9 and the hyphen of 3: 42, with 3 to shrink.
        check.paragraph(x, "=9aa aabbccdd", 2);
        check.lines(x, "aa aabb-", "ccdd");
        check.told(x, 0, 2, 2, 42, -2, 29, 6);
        check.told(x, 1, 3, 4, 20, 20, 0, 4);
        check.places(x, 0, 0, 5, 10, 17, 22, 27, 32, 37);
        check.due("character", x.character(0, 7), '-');
        check.due("behind the end", x.character(0, 8), 0);
        check.due("behind the end of a line without a hyphen", x.character(1, 4), 0);
        check.due("cost()", x.cost(), 39 * 39 + 2500 + 100);
        check.due("points", x.count(3), 1);
        // A - of the text is a character of its line, but no letter.
        check.due("measure", x.parameter(0, 23), 0);
        check.paragraph(x, "aabb-cc", 2);
        check.lines(x, "aabb-", "cc");
        check.told(x, 0, 1, 1, 23, 0, 0, 4);
        check.due("cost()", x.cost(), 200);
        check.due("no second - behind it", x.character(0, 5), 0);
    }

    private static void toleranceEdges() {
        Counted x = made(26, 100);
        check.paragraph(x, "aa bb cc", 2);
        check.told(x, 0, 2, 0, 24, 2, 100, 4);
        check.due("tolerance", x.parameter(1, 99), 0);
        check.paragraph(x, "aa bb cc", OVERFULL);
        check.due("measure", x.parameter(0, 25), 0);
        check.paragraph(x, "aa bb cc", 2);
        check.told(x, 0, 2, 0, 24, 1, 12, 4);
        check.places(x, 0, 0, 5, 10, 15, 20);
        check.due("tolerance", x.parameter(1, 0), 0);
        check.due("measure", x.parameter(0, 24), 0);
        check.paragraph(x, "aa bb cc", 2);
        check.told(x, 0, 2, 0, 24, 0, 0, 4);
        check.due("the greatest tolerance", x.parameter(1, 10000), 0);
        check.due("measure", x.parameter(0, 33), 0);
        check.paragraph(x, "aa bb cc", 2);
        check.told(x, 0, 2, 0, 24, 9, 9112, 4);
        check.due("measure", x.parameter(0, 34), 0);
        check.paragraph(x, "aa bb ccc", OVERFULL);
        // Without a space there is nothing to stretch, however great the tolerance.
        check.paragraph(x, "aaaaaa bbbbb", OVERFULL);
    }

    private static void shrinkEdges() {
        Counted x = made(23, 10000);
        check.paragraph(x, "aa bb", 1);
        check.told(x, 0, 2, 4, 24, -1, 100, 4);
        check.places(x, 0, 0, 5, 10, 13, 18);
        check.due("measure", x.parameter(0, 22), 0);
        check.paragraph(x, "aa bb", OVERFULL);
        check.due("measure", x.parameter(0, 21), 0);
        // A space of 2 does not shrink, one of 3 does by 1.
        check.paragraph(x, "=2aa bb", OVERFULL);
        check.due("measure", x.parameter(0, 22), 0);
        check.paragraph(x, "=3aa bb", 1);
        check.due("tolerance", x.parameter(1, 99), 0);
        check.paragraph(x, "=3aa bb", OVERFULL);
    }

    private static void rounding() {
        // A space of s stretches by (s + 1) / 2: 1 1 2 2 3 3 4 4 5; and D is 2.
        int[] badness = {800, 800, 100, 100, 29, 29, 12, 12, 6};
        for (int s = 1; s <= 9; s++) {
            Counted x = made(22 + s, 10000);
            check.due("width", x.width('c', 1), 0);
            check.paragraph(x, "=" + s + "aa bb cccccccccc", 2);
            check.told(x, 0, 2, 0, 20 + s, 2, badness[s - 1], 4);
        }
    }

    private static void leastCost() {
        Counted x = made(30, 10000, 10);
        check.due("width", x.width('a', 1), 0);
        // At break 2 the line is 11 (D 19, stretch 5: 5487), at 3 it is 21 (D 9, stretch 10: 72),
        // at 4 it is 31 (D -1, shrink 9: 0); a last line behind it costs the same in each case.
        check.paragraph(x, "=9a a a a a a", 2);
        check.told(x, 0, 4, 0, 31, -1, 0, 4);
        check.due("cost()", x.cost(), 200);
        // The best first line would end at break 3, but leave a word that can't be set in a line of its own.
        String fourth = "a".repeat(20);
        String fifth = "a".repeat(15);
        check.paragraph(x, "=9a aaaaaaaa a " + fourth + " " + fifth, 3);
        check.lines(x, "a aaaaaaaa", "a " + fourth, fifth);
        check.told(x, 0, 2, 0, 18, 12, 1382, 9);
        check.told(x, 1, 4, 0, 30, 0, 0, 21);
        check.told(x, 2, 5, 4, 15, 15, 0, 15);
        check.due("cost()", x.cost(), 1392 * 1392 + 200);
    }

    private static void hyphenPrice() {
        Counted x = made(75, 200, 10, 42);
        check.pattern(x, "b1c");
        for (char c : "abc-".toCharArray()) {
            check.due("width", x.width(c, 1), 0);
        }
        // With the hyphen the first line is exact, without it it has a badness of 34: 44^2 is 1936.
        String rest = "c".repeat(20);
        check.paragraph(x, "=9x~x~x~x~x aabb" + rest, 2);
        check.lines(x, "x x x x x aabb-", rest);
        check.due("cost()", x.cost(), 100 + 42 * 42 + 100);
        check.due("hyphen", x.parameter(3, 43), 0);
        check.paragraph(x, "=9x~x~x~x~x aabb" + rest, 2);
        check.lines(x, "x x x x x", "aabb" + rest);
        check.told(x, 0, 1, 0, 61, 14, 34, 5);
        check.due("cost()", x.cost(), 1936 + 100);
    }

    private static void doublePrice() {
        Counted x = made(25, 200, 10, 50, 10000);
        check.pattern(x, "b1c");
        check.pattern(x, "d1e");
        check.paragraph(x, "aabbccddeeff", 3);
        check.lines(x, "aabb-", "ccdd-", "eeff");
        check.due("cost()", x.cost(), 2600 + 2600 + 10000 + 100);
        check.paragraph(x, "aabbccddd ddddd-ddd", OVERFULL);
        check.paragraph(x, "aabbccccc ccddeee", 4);
        check.lines(x, "aabb-", "ccccc", "ccdd-", "eee");
        check.due("two that are not together", x.cost(), 2600 + 100 + 2600 + 100);
    }

    private static void fewestLines() {
        Counted x = made(34, 200, 0);
        check.due("width", x.width('b', 1), 0);
        // "a~~a-" has 1 to stretch by 10, "a~~a-b" is exact: no badness either way.
        check.paragraph(x, "=9a~~a-b", 1);
        check.told(x, 0, 2, 4, 34, 0, 0, 3);
        check.due("cost()", x.cost(), 0);
    }

    private static void leastBreaks() {
        Counted x = made(34, 200, 0);
        check.due("width", x.width('b', 1), 0);
        check.paragraph(x, "=9a~~a-b c", 2);
        check.told(x, 0, 1, 1, 33, 1, 0, 2);
        check.told(x, 1, 3, 4, 15, 19, 0, 2);
        // The same in the second line, behind a first one that is given.
        check.paragraph(x, "=9c|a~~a-b c", 3);
        check.told(x, 0, 1, 3, 5, 29, 0, 1);
        check.told(x, 1, 2, 1, 33, 1, 0, 2);
        check.told(x, 2, 4, 4, 15, 19, 0, 2);
    }

    private static void blankBehindDash() {
        Counted x = made(34);
        check.due("width", x.width('b', 1), 0);
        check.paragraph(x, "=9a~~a- bbb ~cc", 2);
        check.due("breaks", x.count(2), 4);
        check.lines(x, "a  a-", "bbb  cc");
        check.told(x, 0, 1, 1, 33, 1, 0, 2);
        check.told(x, 1, 4, 4, 31, 3, 0, 5);
        check.places(x, 1, 0, 1, 2, 3, 12, 21, 26);
    }

    private static void bars() {
        Counted x = made(60);
        check.paragraph(x, "a|b c|d-|e", 4);
        check.lines(x, "a", "b c", "d-", "e");
        check.told(x, 0, 1, 3);
        check.told(x, 1, 3, 3);
        check.told(x, 2, 5, 3);
        check.told(x, 3, 6, 4);
        check.due("items", x.count(1), 10);
        check.due("cost()", x.cost(), 400);
    }

    private static void linesWithoutLetters() {
        Counted x = made(60);
        check.paragraph(x, "~", OVERFULL);
        check.paragraph(x, "~ ~", OVERFULL);
        check.paragraph(x, "a|~|b", OVERFULL);
        check.paragraph(x, "-", 1);
        check.told(x, 0, 1, 4, 5, 55, 0, 0);
        check.paragraph(x, "a|-|b", 3);
        check.paragraph(x, "~a~|~-~", 2);
        check.lines(x, " a ", " - ");
        check.places(x, 0, 0, 4, 9);
    }

    private static void laterChanges() {
        Counted x = made(60);
        check.paragraph(x, "=9aaa bbb ccc ddd", 2);
        check.due("width", x.width('a', 20), 0);
        check.due("width", x.width('-', 20), 0);
        check.due("measure", x.parameter(0, 400), 0);
        check.due("tolerance", x.parameter(1, 0), 0);
        check.due("line", x.parameter(2, 100), 0);
        check.pattern(x, "a1b");
        check.define(x, 'A', "x");
        check.type(x, "zz");
        check.lines(x, "aaa bbb ccc", "ddd");
        check.told(x, 0, 3, 0, 63, -3, 12, 9);
        check.told(x, 1, 4, 4, 15, 45, 0, 3);
        check.places(x, 0, 0, 5, 10, 15, 22, 27, 32, 37, 45, 50, 55);
        check.due("cost()", x.cost(), 22 * 22 + 100);
        check.due("patterns", x.count(5), 1);
        check.due("length", x.count(6), 2);
    }

    private static void outOfRange() {
        Counted x = made(60);
        check.paragraph(x, "ab|c", 2);
        int[] wrong = {-1, Integer.MIN_VALUE, Integer.MAX_VALUE};
        for (int n : wrong) {
            check.due("line(" + n + ", 0)", x.line(n, 0), REFUSED);
            check.due("line(0, " + n + ")", x.line(0, n), REFUSED);
            check.due("character(" + n + ", 0)", x.character(n, 0), REFUSED);
            check.due("character(0, " + n + ")", x.character(0, n), n < 0 ? REFUSED : 0);
            check.due("place(" + n + ", 0)", x.place(n, 0), REFUSED);
            check.due("place(0, " + n + ")", x.place(0, n), REFUSED);
            check.due("count(" + n + ")", x.count(n), REFUSED);
        }
        check.due("line(2, 0)", x.line(2, 0), REFUSED);
        check.due("line(0, 6)", x.line(0, 6), REFUSED);
        check.due("line(2, 6)", x.line(2, 6), REFUSED);
        check.due("character(2, 0)", x.character(2, 0), REFUSED);
        check.due("character(0, 2)", x.character(0, 2), 0);
        check.due("place(2, 0)", x.place(2, 0), REFUSED);
        check.due("place(0, 2)", x.place(0, 2), REFUSED);
        check.due("count(7)", x.count(7), REFUSED);
    }

    private static void largeCost() {
        Counted x = made(50, 10000, 100);
        check.due("width", x.width('a', 9), 0);
        check.define(x, 'A', "a~a a~a a~a a~a a~a a~a ");
        check.paragraph(x, "=9AAAA", 24);
        check.told(x, 0, 1, 0, 27, 23, 9733, 2);
        check.told(x, 23, 24, 4, 27, 23, 0, 2);
        check.due("more than an int holds: cost()", x.cost(), 23L * 9833 * 9833 + 100 * 100);
        // The rest fits in a line of its own alone: the first would have D 300 and stretch 1.
        check.due("measure", x.parameter(0, 304), 0);
        check.due("width", x.width('a', 1), 0);
        check.due("width", x.width('b', 8), 0);
        check.paragraph(x, "=9" + "b~b~b~b".repeat(6), 1);
        check.paragraph(x, "=1aa~a =9" + "b~b~b~b".repeat(6), OVERFULL);
    }

    private static void counts() {
        Counted x = made(25);
        check.pattern(x, "b1c");
        check.define(x, 'A', "bb");
        check.paragraph(x, "aaaaaaA", OVERFULL);
        check.due("items", x.count(1), 0);
        check.paragraph(x, " aaAcc ", 2);
        check.due("lines", x.count(0), 2);
        check.due("items", x.count(1), 6);
        check.due("breaks", x.count(2), 2);
        check.due("points", x.count(3), 1);
        check.due("macros called", x.count(4), 1);
        check.due("patterns", x.count(5), 1);
        check.type(x, "abc");
        check.due("length", x.count(6), 3);
        check.due("lines, with another line typed", x.count(0), 2);
    }
}
