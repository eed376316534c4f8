/** Promise 8: the answers of paragraph, and the lines that are chosen; expansion has a test of its own. */
public final class Promise08ParagraphTest {
    private static final int REFUSED = ParagraphSetter.REFUSED;
    private static final int SYNTAX = ParagraphSetter.SYNTAX;
    private static final int BIG = ParagraphSetter.BIG;
    private static final int OVERFULL = ParagraphSetter.OVERFULL;

    private static final Checker check = new Checker("Promise08ParagraphTest");

    public static void main(String[] args) {
        numberOfLines();
        lineEmptyInEveryCase();
        whicheverComesFirst();
        breaksBeforeOverfull();
        settingStays();
        settingWithoutLines();
        settingReplaced();
        toleranceEdges();
        shrinkEdges();
        stretchesOfSpaces();
        leastCost();
        hyphenPrice();
        doublePrice();
        fewestLines();
        leastBreaks();
        blankBehindDash();
        bars();
        linesWithoutLetters();
        check.finish();
    }

    private static void numberOfLines() {
        check.sentence("Sets the line as a paragraph ... Answers the number of lines");
        for (int lines = 1; lines <= 15; lines++) {
            Counted x = check.made(15);
            check.paragraph(x, "aaa ".repeat(lines), lines);
            check.due("count(0)", x.count(0), lines);
        }
        check.paragraph(check.fresh(), "a|".repeat(24), 24);
    }

    private static void lineEmptyInEveryCase() {
        check.sentence("it is empty afterwards in every case");
        String[] texts = {"a", "", "|", "a}", "{".repeat(9), "a-".repeat(24) + "a", "a".repeat(13), "a".repeat(60)};
        int[] answers = {1, 0, 0, SYNTAX, BIG, BIG, OVERFULL, OVERFULL};
        for (int k = 0; k < texts.length; k++) {
            Counted x = check.fresh();
            check.type(x, texts[k]);
            check.due("paragraph() of \"" + texts[k] + "\"", x.paragraph(), answers[k]);
            check.due("the line behind it", x.count(6), 0);
            check.due("paragraph() of what is left", x.paragraph(), 0);
        }
    }

    private static void whicheverComesFirst() {
        check.sentence("SYNTAX or BIG, whichever comes up first in EXPANSION; else BIG for too many breaks");
        Counted x = check.made(10);
        check.define(x, 'A', "");
        String nine = "{".repeat(9);
        check.paragraph(x, "." + nine, SYNTAX);
        check.paragraph(x, nine + ".", BIG);
        check.paragraph(x, "}" + "A".repeat(41), SYNTAX);
        check.paragraph(x, "A".repeat(41) + "}", BIG);
        check.paragraph(x, "a-".repeat(24) + "a.", SYNTAX);
        check.paragraph(x, "a-".repeat(24) + "a{", SYNTAX);
        check.paragraph(x, "a-".repeat(24) + "a" + nine, BIG);
        check.paragraph(x, "a-".repeat(24) + "aB", SYNTAX);
        check.paragraph(x, "aaaaa.", SYNTAX);
        check.paragraph(x, "aaaaa" + nine, BIG);
        check.same("none of them", Checker.seen(x), Checker.NOTHING_SEEN);
    }

    private static void breaksBeforeOverfull() {
        check.sentence("else BIG for too many breaks; ... else OVERFULL if there is none");
        Counted x = check.made(10);
        check.paragraph(x, "aaa" + " a".repeat(24), BIG);
        check.paragraph(x, "aaa" + " a".repeat(23), OVERFULL);
        check.paragraph(x, "aaa", OVERFULL);
        check.sets(x, "aa", "aa");
    }

    private static void settingStays() {
        check.sentence("With an answer below 0 the SETTING there was stays");
        Counted x = check.made(25);
        check.pattern(x, "b1c");
        check.define(x, 'A', "bb");
        check.sets(x, "aaAcc", "aabb-", "cc");
        String before = Checker.seen(x);
        String[] texts = {"b.", "{".repeat(9), "b-".repeat(24) + "b", "bbbbbbb", "~", "b|~", "~|b"};
        int[] answers = {SYNTAX, BIG, BIG, OVERFULL, OVERFULL, OVERFULL, OVERFULL};
        for (int k = 0; k < texts.length; k++) {
            check.paragraph(x, texts[k], answers[k]);
            check.same("\"" + texts[k] + "\"", Checker.seen(x), before);
        }
    }

    private static void settingWithoutLines() {
        check.sentence("else, without ITEMS: a SETTING without lines, 0");
        Counted x = check.fresh();
        check.define(x, 'A', " ");
        check.sets(x, "a|b", "a", "b");
        check.paragraph(x, "AA", 0);
        check.same("\"AA\"", Checker.seen(x), "cost 0 counts 0 0 0 0 2 0 0");
        check.due("line(0, 0)", x.line(0, 0), REFUSED);
        check.due("character(0, 0)", x.character(0, 0), REFUSED);
        check.due("place(0, 0)", x.place(0, 0), REFUSED);
        // It is a SETTING, and stays with an answer below 0.
        check.paragraph(x, "}", SYNTAX);
        check.due("macros called", x.count(4), 2);
        check.paragraph(x, "~", OVERFULL);
        check.due("macros called", x.count(4), 2);
        check.sets(x, "a|b", "a", "b");
        check.due("paragraph() of an empty line", x.paragraph(), 0);
        check.same("paragraph()", Checker.seen(x), Checker.NOTHING_SEEN);
    }

    private static void settingReplaced() {
        check.sentence("Sets the line as a paragraph - nothing is left of the SETTING before");
        Counted x = check.made(15);
        check.pattern(x, "b1c");
        check.define(x, 'A', "aaa");
        check.sets(x, "A bbccc aaa", "aaa", "bb-", "ccc", "aaa");
        check.sets(x, "d~d", "d d");
        check.same("\"d~d\"", Checker.seen(x), "cost 100 counts 1 3 1 0 0 1 0; \"d d\" 1 4 14 1 0 2 at 0 5 9");
        check.sets(x, "d|ddd", "d", "ddd");
        check.same("\"d|ddd\"", Checker.seen(x),
            "cost 200 counts 2 5 2 0 0 1 0; \"d\" 1 3 5 10 0 1 at 0; \"ddd\" 2 4 15 0 0 3 at 0 5 10");
    }

    private static void toleranceEdges() {
        check.sentence("OVERFULL if there is none: BADNESS is above TOLERANCE");
        Counted x = check.made(26, 100);
        check.sets(x, "aa bb cc", "aa bb", "cc");
        check.parameter(x, 1, 99);
        check.paragraph(x, "aa bb cc", OVERFULL);
        check.parameter(x, 0, 25);
        check.sets(x, "aa bb cc", "aa bb", "cc");
        check.parameter(x, 1, 0);
        check.paragraph(x, "aa bb cc", OVERFULL);
        check.parameter(x, 0, 24);
        check.sets(x, "aa bb cc", "aa bb", "cc");
        check.parameter(x, 1, 10000);
        check.parameter(x, 0, 33);
        check.sets(x, "aa bb cc", "aa bb", "cc");
        check.parameter(x, 0, 34);
        check.paragraph(x, "aa bb ccc", OVERFULL);
        // Without a space there is nothing to stretch, however great the tolerance.
        check.paragraph(x, "aaaaaa bbbbb", OVERFULL);
    }

    private static void shrinkEdges() {
        check.sentence("OVERFULL if there is none: D is below -SHRINK");
        Counted x = check.made(23, 10000);
        check.sets(x, "aa bb", "aa bb");
        check.parameter(x, 0, 22);
        check.paragraph(x, "aa bb", OVERFULL);
        check.parameter(x, 0, 21);
        // A space of 2 does not shrink, one of 3 does by 1.
        check.paragraph(x, "=2aa bb", OVERFULL);
        check.parameter(x, 0, 22);
        check.sets(x, "=3aa bb", "aa bb");
        check.parameter(x, 1, 99);
        check.paragraph(x, "=3aa bb", OVERFULL);
    }

    private static void stretchesOfSpaces() {
        check.sentence("A blank or ~ of SPACE s stretches by (s + 1) / 2");
        // 1 1 2 2 3 3 4 4 5; and D is 2.
        int[] badness = {800, 800, 100, 100, 29, 29, 12, 12, 6};
        for (int s = 1; s <= 9; s++) {
            Counted x = check.made(22 + s, badness[s - 1]);
            check.width(x, 'c', 1);
            check.sets(x, "=" + s + "aa bb cccccccccc", "aa bb", "cccccccccc");
            check.parameter(x, 1, badness[s - 1] - 1);
            check.paragraph(x, "=" + s + "aa bb cccccccccc", OVERFULL);
        }
    }

    private static void leastCost() {
        check.sentence("with the least sum of COSTS");
        Counted x = check.made(30, 10000, 10);
        check.width(x, 'a', 1);
        // At break 2 the line is 11 (D 19, stretch 5: 5487), at 3 it is 21 (D 9, stretch 10: 72),
        // at 4 it is 31 (D -1, shrink 9: 0); a last line behind it costs the same in each case.
        check.sets(x, "=9a a a a a a", "a a a a", "a a");
        check.told(x, 0, 4, 0, 31, -1, 0, 4);
        // The best first line would end at break 3, but leave a word that can't be set in a line of its own.
        String fourth = "a".repeat(20);
        String fifth = "a".repeat(15);
        check.sets(x, "=9a aaaaaaaa a " + fourth + " " + fifth, "a aaaaaaaa", "a " + fourth, fifth);
        check.told(x, 0, 2, 0, 18, 12, 1382, 9);
        check.told(x, 1, 4, 0, 30, 0, 0, 21);
        check.told(x, 2, 5, 4, 15, 15, 0, 15);
    }

    private static void hyphenPrice() {
        check.sentence("plus HYPHEN^2 if j is of kind 2");
        Counted x = check.made(75, 200, 10, 42);
        check.pattern(x, "b1c");
        for (char c : "abc-".toCharArray()) {
            check.width(x, c, 1);
        }
        // With the hyphen the first line is exact, without it it has a badness of 34: 44^2 is 1936.
        String rest = "c".repeat(20);
        check.sets(x, "=9x~x~x~x~x aabb" + rest, "x x x x x aabb-", rest);
        check.parameter(x, 3, 43);
        check.sets(x, "=9x~x~x~x~x aabb" + rest, "x x x x x", "aabb" + rest);
        check.told(x, 0, 1, 0, 61, 14, 34, 5);
    }

    private static void doublePrice() {
        check.sentence("plus DOUBLE if i is too");
        Counted x = check.made(75, 200, 0, 0, 34 * 34 - 1);
        check.pattern(x, "b1c");
        check.width(x, 'y', 3);
        for (char c : "abc-".toCharArray()) {
            check.width(x, c, 1);
        }
        // The first line can end at its point alone; the second costs 34^2 at the blank, DOUBLE at the next point.
        String first = "d".repeat(14) + "bbbb";
        String rest = "c".repeat(20);
        String text = "=9" + first + "ccy~x~x~x~x aabb" + rest;
        check.sets(x, text, first + "-", "ccy x x x x aabb-", rest);
        check.parameter(x, 4, 34 * 34);
        check.sets(x, text, first + "-", "ccy x x x x", "aabb" + rest);
        check.parameter(x, 4, 34 * 34 + 1);
        check.sets(x, text, first + "-", "ccy x x x x", "aabb" + rest);
        // A | between the two: the second line does not begin at a point.
        check.parameter(x, 4, 10000);
        check.sets(x, "=9" + first + "cc|y~x~x~x~x aaabb" + rest, first + "-", "cc", "y x x x x aaabb-", rest);
    }

    private static void fewestLines() {
        check.sentence("of such with the fewest lines");
        Counted x = check.made(34, 200, 0);
        check.width(x, 'b', 1);
        // "a~~a-" has 1 to stretch by 10, "a~~a-b" is exact: no badness either way.
        check.sets(x, "=9a~~a-b", "a  a-b");
        check.told(x, 0, 2, 4, 34, 0, 0, 3);
    }

    private static void leastBreaks() {
        check.sentence("of such the one whose first line ends at the least break, then the second, and so on");
        Counted x = check.made(34, 200, 0);
        check.width(x, 'b', 1);
        check.sets(x, "=9a~~a-b c", "a  a-", "b c");
        check.told(x, 0, 1, 1, 33, 1, 0, 2);
        check.told(x, 1, 3, 4, 15, 19, 0, 2);
        // The same in the second line, behind a first one that is given.
        check.sets(x, "=9c|a~~a-b c", "c", "a  a-", "b c");
        check.told(x, 0, 1, 3, 5, 29, 0, 1);
        check.told(x, 1, 2, 1, 33, 1, 0, 2);
        check.told(x, 2, 4, 4, 15, 19, 0, 2);
    }

    private static void blankBehindDash() {
        check.sentence("and blanks at its beginning left out");
        Counted x = check.made(34);
        check.width(x, 'b', 1);
        check.sets(x, "=9a~~a- bbb ~cc", "a  a-", "bbb  cc");
        check.due("breaks", x.count(2), 4);
        check.told(x, 0, 1, 1, 33, 1, 0, 2);
        check.told(x, 1, 4, 4, 31, 3, 0, 5);
        check.places(x, 1, 0, 1, 2, 3, 12, 21, 26);
    }

    private static void bars() {
        check.sentence("goes from one break i to a later one j with no | between");
        Counted x = check.made(60);
        check.sets(x, "a|b c|d-|e", "a", "b c", "d-", "e");
        check.told(x, 0, 1, 3);
        check.told(x, 1, 3, 3);
        check.told(x, 2, 5, 3);
        check.told(x, 3, 6, 4);
    }

    private static void linesWithoutLetters() {
        check.sentence("It must have a letter or -");
        Counted x = check.made(60);
        check.paragraph(x, "~", OVERFULL);
        check.paragraph(x, "~ ~", OVERFULL);
        check.paragraph(x, "a|~|b", OVERFULL);
        check.sets(x, "-", "-");
        check.told(x, 0, 1, 4, 5, 55, 0, 0);
        check.sets(x, "a|-|b", "a", "-", "b");
        check.sets(x, "~a~|~-~", " a ", " - ");
    }
}
