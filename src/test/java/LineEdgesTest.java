/** The boundary cases that "Terms" names for the line, WIDTHS, PARAMETERS, EXPANSION and the ITEMS that go out. */
public final class LineEdgesTest {
    private static final int REFUSED = ParagraphSetter.REFUSED;
    private static final int FULL = ParagraphSetter.FULL;
    private static final int SYNTAX = ParagraphSetter.SYNTAX;
    private static final int BIG = ParagraphSetter.BIG;
    private static final int OVERFULL = ParagraphSetter.OVERFULL;
    private static final String LETTERS = "abcdefghijklmnopqrstuvwxyz";
    private static final String OF_LINE = LETTERS + "ABCD0123456789 -~|{}#=.";
    private static final String THREE_LINES = "aabbccddeeff";

    private static final Checker check = new Checker("LineEdgesTest");

    public static void main(String[] args) {
        lineIsEmptyAtFirst();
        lineOfSixty();
        charactersOfTheLine();
        codesThatWrapAround();
        widths();
        measure();
        firstTolerance();
        leastTolerance();
        mostTolerance();
        priceOfALine();
        priceOfAHyphen();
        priceOfTwoHyphens();
        firstSpace();
        emptyList();
        macroNotDefined();
        fortyCalls();
        argumentMissing();
        argumentNotClosed();
        argumentOfOne();
        twoHundredInTheList();
        whatStandsBehindCounts();
        eightGroups();
        spaceBehindAGroup();
        noneIsOpen();
        spaceOneToNine();
        noSpace();
        faultyCharacters();
        oneHundredAndTwentyItems();
        whatIsNoItem();
        openAtTheEnd();
        blanksAtTheBeginning();
        blanksBehind();
        blanksAtTheEnd();
        bars();
        orderOfGoingOut();
        spacesOfThoseThatStay();
        allGoOut();
        check.finish();
    }

    private static Counted wide() {
        return check.made(400);
    }

    private static void natural(Counted x, String text, int want) {
        check.paragraph(x, text, 1);
        check.due("NATURAL of \"" + text + "\"", x.line(0, 2), want);
    }

    private static void lineIsEmptyAtFirst() {
        check.sentence("THE LINE is ... empty at first");
        check.due("count(6)", check.fresh().count(6), 0);
        check.due("paragraph()", check.fresh().paragraph(), 0);
        check.due("pattern()", check.fresh().pattern(), SYNTAX);
        check.due("type('a')", check.fresh().type('a'), 1);
    }

    private static void lineOfSixty() {
        check.sentence("THE LINE is a text of at most 60 characters");
        Counted x = wide();
        String sixty = (LETTERS + LETTERS + LETTERS).substring(0, 60);
        check.type(x, sixty.substring(0, 59));
        check.due("the 60th", x.type(sixty.charAt(59)), 60);
        for (char c : OF_LINE.toCharArray()) {
            check.due("the 61st, " + c, x.type(c), FULL);
        }
        check.due("count(6)", x.count(6), 60);
        check.due("paragraph()", x.paragraph(), 1);
        check.lines(x, sixty);
    }

    private static void charactersOfTheLine() {
        check.sentence("letters a .. z, macro names A .. D, digits, blanks, and - ~ | { } # = and the point");
        String taken = "azAD09 -~|{}#=.";
        for (char c : taken.toCharArray()) {
            check.due("type('" + c + "')", check.fresh().type(c), 1);
        }
        String refused = "`@E/:!,\"$<>\u007f\u001f_^[]\\Z\t\n\r\0\u0080\u00a0\u00ad\u00e4";
        for (char c : refused.toCharArray()) {
            check.due("type(" + (int) c + ")", check.fresh().type(c), REFUSED);
        }
    }

    private static void codesThatWrapAround() {
        check.sentence("Not one of the line's: REFUSED");
        for (char c : OF_LINE.toCharArray()) {
            int[] wrong = {c + 128, c + 256, c - 256, c + 65536, c - 65536, -c, ~c, c | Integer.MIN_VALUE};
            Counted x = check.fresh();
            for (int code : wrong) {
                check.due("type(" + code + ")", x.type(code), REFUSED);
            }
            check.due("count(6)", x.count(6), 0);
        }
    }

    private static void widths() {
        check.sentence("WIDTHS: of each letter and of the character -, 1 .. 20, at first 5");
        for (char c : (LETTERS + "-").toCharArray()) {
            Counted x = wide();
            natural(x, "" + c, 5);
            check.width(x, c, 1);
            natural(x, "" + c, 1);
            check.due("width 0 of " + c, x.width(c, 0), REFUSED);
            natural(x, "" + c, 1);
            check.width(x, c, 20);
            natural(x, "" + c, 20);
            check.due("width 21 of " + c, x.width(c, 21), REFUSED);
            natural(x, "" + c, 20);
            natural(x, LETTERS + "-", 26 * 5 + 20);
        }
    }

    private static void measures(Counted x, int want) {
        check.paragraph(x, "a", 1);
        check.due("MEASURE less 5", x.line(0, 3), want - 5);
    }

    private static void measure() {
        check.sentence("0 MEASURE 10 .. 400, 60");
        Counted x = check.fresh();
        measures(x, 60);
        check.due("9", x.parameter(0, 9), REFUSED);
        measures(x, 60);
        check.parameter(x, 0, 10);
        measures(x, 10);
        check.sets(x, "aa", "aa");
        check.paragraph(x, "aaa", OVERFULL);
        check.due("401", x.parameter(0, 401), REFUSED);
        measures(x, 10);
        check.parameter(x, 0, 400);
        measures(x, 400);
        check.width(x, 'a', 20);
        check.sets(x, "a".repeat(20), "a".repeat(20));
        check.paragraph(x, "a".repeat(20) + "b", OVERFULL);
        x = check.fresh();
        check.sets(x, "a".repeat(12), "a".repeat(12));
        check.paragraph(x, "a".repeat(13), OVERFULL);
    }

    private static void firstTolerance() {
        check.sentence("1 TOLERANCE 0 .. 10000, 200");
        Counted x = check.fresh();
        // 23 spaces of 1 and a letter of 8 are 31: 100 * 29^3 / 23^3 is 200.
        String rest = " " + "c".repeat(12);
        check.width(x, 'a', 8);
        check.paragraph(x, "=1a" + "~".repeat(23) + rest, 2);
        check.told(x, 0, 1, 0, 31, 29, 200, 1);
        // 19 spaces of 1 and a letter of 17 are 36: 100 * 24^3 / 19^3 is 201.
        check.width(x, 'a', 17);
        check.paragraph(x, "=1a" + "~".repeat(19) + rest, OVERFULL);
        check.parameter(x, 1, 201);
        check.paragraph(x, "=1a" + "~".repeat(19) + rest, 2);
        check.told(x, 0, 1, 0, 36, 24, 201, 1);
    }

    private static void leastTolerance() {
        check.sentence("1 TOLERANCE 0 ..");
        Counted x = check.made(25, 0);
        // With a space of 9 a line of 24 has a stretch of 5, and D 1 no badness; with 8, a badness of 1.
        check.width(x, 'a', 15);
        check.sets(x, "=9a~ ccccc", "a ", "ccccc");
        check.told(x, 0, 1, 0, 24, 1, 0, 1);
        check.width(x, 'a', 16);
        check.paragraph(x, "=8a~ ccccc", OVERFULL);
        check.due("-1", x.parameter(1, -1), REFUSED);
        check.paragraph(x, "=8a~ ccccc", OVERFULL);
        check.parameter(x, 1, 1);
        check.sets(x, "=8a~ ccccc", "a ", "ccccc");
        check.told(x, 0, 1, 0, 24, 1, 1, 1);
    }

    private static void mostTolerance() {
        check.sentence("1 TOLERANCE .. 10000");
        Counted x = check.made(346, 10000);
        check.width(x, 'c', 20);
        String rest = " " + "c".repeat(17);
        // Ten spaces of 9 and one of 5 stretch by 53: 100 * 246^3 / 53^3 is 9999.
        String nearly = "=9a" + "~".repeat(10) + "=5~" + rest;
        check.paragraph(x, nearly, 2);
        check.told(x, 0, 1, 0, 100, 246, 9999, 1);
        check.parameter(x, 1, 9998);
        check.paragraph(x, nearly, OVERFULL);
        check.parameter(x, 1, 10000);
        // 67 spaces of 1 stretch by 67: 100 * 311^3 / 67^3 is 10001.
        check.define(x, 'A', "~".repeat(24));
        check.parameter(x, 0, 383);
        String above = "=1aAA" + "~".repeat(19) + rest;
        check.paragraph(x, above, OVERFULL);
        check.due("10001", x.parameter(1, 10001), REFUSED);
        check.paragraph(x, above, OVERFULL);
    }

    private static void costs(Counted x, String text, long want) {
        check.type(x, text);
        x.paragraph();
        check.due("cost() of \"" + text + "\"", x.cost(), want);
    }

    private static void priceOfALine() {
        check.sentence("2 LINE 0 .. 100, 10");
        Counted x = check.fresh();
        costs(x, "a", 100);
        check.due("-1", x.parameter(2, -1), REFUSED);
        costs(x, "a", 100);
        check.parameter(x, 2, 0);
        costs(x, "a|b", 0);
        check.due("101", x.parameter(2, 101), REFUSED);
        costs(x, "a|b", 0);
        check.parameter(x, 2, 100);
        costs(x, "a|b", 20000);
    }

    private static Counted withTwoPoints(int... values) {
        Counted x = check.made(values);
        check.pattern(x, "b1c");
        check.pattern(x, "d1e");
        return x;
    }

    private static void priceOfAHyphen() {
        check.sentence("3 HYPHEN 0 .. 200, 50");
        Counted x = withTwoPoints(25);
        costs(x, "aabbccdd", 200 + 2500);
        check.due("-1", x.parameter(3, -1), REFUSED);
        costs(x, "aabbccdd", 200 + 2500);
        check.parameter(x, 3, 0);
        costs(x, "aabbccdd", 200);
        check.due("201", x.parameter(3, 201), REFUSED);
        costs(x, "aabbccdd", 200);
        check.parameter(x, 3, 200);
        costs(x, "aabbccdd", 200 + 40000);
    }

    private static void priceOfTwoHyphens() {
        check.sentence("4 DOUBLE 0 .. 10000, 0");
        Counted x = withTwoPoints(25);
        costs(x, THREE_LINES, 300 + 5000);
        check.due("-1", x.parameter(4, -1), REFUSED);
        costs(x, THREE_LINES, 300 + 5000);
        check.parameter(x, 4, 10000);
        costs(x, THREE_LINES, 300 + 5000 + 10000);
        check.due("10001", x.parameter(4, 10001), REFUSED);
        costs(x, THREE_LINES, 300 + 5000 + 10000);
        check.parameter(x, 4, 0);
        costs(x, THREE_LINES, 300 + 5000);
    }

    private static void firstSpace() {
        check.sentence("EXPANSION goes by ... SPACE, at first 4");
        Counted x = wide();
        natural(x, "a a~a", 15 + 4 + 4);
        natural(x, "=9a a~a", 15 + 9 + 9);
        natural(x, "a a~a", 15 + 4 + 4);
        check.paragraph(x, "=9a}", SYNTAX);
        natural(x, "a a~a", 15 + 4 + 4);
        check.paragraph(x, "{=9{=8", SYNTAX);
        natural(x, "a{a} a", 15 + 4);
    }

    private static void emptyList() {
        check.sentence("The first character is taken off it, again and again, until the list is empty");
        Counted x = wide();
        check.due("paragraph() with nothing on the line", x.paragraph(), 0);
        check.define(x, 'A', "");
        check.paragraph(x, "A", 0);
        check.sets(x, "a", "a");
        check.sets(x, "a".repeat(60), "a".repeat(60));
    }

    private static void macroNotDefined() {
        check.sentence("if that macro is not defined: SYNTAX");
        for (char macro = 'A'; macro <= 'D'; macro++) {
            Counted x = wide();
            for (char other = 'A'; other <= 'D'; other++) {
                if (other != macro) {
                    check.define(x, other, "x");
                }
            }
            check.paragraph(x, "" + macro, SYNTAX);
            check.sets(x, "ABCD".replace("" + macro, ""), "xxx");
            check.define(x, macro, "");
            check.sets(x, "ABCD", "xxx");
        }
        Counted x = wide();
        check.define(x, 'A', "B");
        check.paragraph(x, "A", SYNTAX);
        check.define(x, 'B', "#");
        check.paragraph(x, "BC", SYNTAX);
        check.sets(x, "Aa", "a");
    }

    private static void fortyCalls() {
        check.sentence("if 40 macros were called before: BIG");
        Counted x = wide();
        check.define(x, 'A', "");
        check.define(x, 'B', "AAAAAAAAA");
        check.define(x, 'C', "#");
        check.sets(x, "A".repeat(40) + "a", "a");
        check.due("macros called", x.count(4), 40);
        check.paragraph(x, "A".repeat(41), BIG);
        check.sets(x, "BBBBa", "a");
        check.due("macros called", x.count(4), 40);
        check.paragraph(x, "BBBBA", BIG);
        check.paragraph(x, "BBBBaA.", BIG);
        // A name that isn't defined is seen before, an argument that isn't there behind it.
        check.paragraph(x, "BBBBD", SYNTAX);
        check.paragraph(x, "BBBBC", BIG);
        check.paragraph(x, "BBBAAAAAAAAAC", SYNTAX);
        check.sets(x, "BBBAAAAAAAAACa", "a");
        check.due("macros called", x.count(4), 40);
        check.due("the next paragraph counts anew", x.paragraph(), 0);
        check.due("macros called", x.count(4), 0);
    }

    private static void argumentMissing() {
        check.sentence("the list is empty or begins with }: SYNTAX");
        Counted x = wide();
        check.define(x, 'A', "x#");
        check.define(x, 'B', "xA");
        check.define(x, 'C', "x");
        check.paragraph(x, "A", SYNTAX);
        check.paragraph(x, "aA", SYNTAX);
        check.paragraph(x, "{A}", SYNTAX);
        check.paragraph(x, "{A}a", SYNTAX);
        check.paragraph(x, "B", SYNTAX);
        check.paragraph(x, "{B}", SYNTAX);
        check.sets(x, "Ba", "xxa");
        // A body without a # takes none.
        check.sets(x, "C", "x");
        check.sets(x, "{C}", "x");
    }

    private static void argumentNotClosed() {
        check.sentence("it begins with {: that, all up to the } that closes it ... (none closes it: SYNTAX)");
        Counted x = wide();
        check.define(x, 'A', "x#y");
        check.define(x, 'B', "#");
        for (String open : new String[] {"A{", "A{a", "A{{", "A{{}", "A{a{b}c", "A{{a}{b}"}) {
            check.paragraph(x, open, SYNTAX);
            check.due("the line behind it", x.count(6), 0);
        }
        check.sets(x, "A{}", "xy");
        check.sets(x, "A{{}}", "xy");
        check.sets(x, "A{a{b}c}d", "xabcyd");
        check.paragraph(x, "A{a}}", SYNTAX);
        // The braces around it open no group: eight more may be open in it.
        check.sets(x, "B{" + "{".repeat(8) + "a" + "}".repeat(8) + "}", "a");
        check.paragraph(x, "B{" + "{".repeat(9) + "a" + "}".repeat(9) + "}", BIG);
    }

    private static void argumentOfOne() {
        check.sentence("else its first character");
        Counted x = wide();
        check.define(x, 'A', "#5");
        check.define(x, 'B', "x#y");
        check.define(x, 'C', "B");
        natural(x, "A=a a", 15);
        check.sets(x, "Bab", "xayb");
        check.sets(x, "B a", "x ya");
        check.sets(x, "B|a", "x", "ya");
        check.sets(x, "BCa", "xxyya");
        check.sets(x, "Bz", "xzy");
        check.paragraph(x, "B#", SYNTAX);
        check.paragraph(x, "B1", SYNTAX);
        check.paragraph(x, "B=1", SYNTAX);
    }

    private static void twoHundredInTheList() {
        check.sentence("more than 200 characters are in it then: BIG");
        Counted x = wide();
        check.define(x, 'A', "#".repeat(10));
        check.define(x, 'B', "#".repeat(8) + "ab");
        String twenty = "{}".repeat(10);
        check.paragraph(x, "A{" + twenty + "}", 0);
        check.paragraph(x, "A{" + twenty + "=}", BIG);
        check.sets(x, "A{" + "{}".repeat(9) + "a}", "a".repeat(10));
        // 8 * 24 and 2 are 194.
        check.sets(x, "B{" + "{}".repeat(12) + "}abcdef", "ababcdef");
        check.paragraph(x, "B{" + "{}".repeat(12) + "}abcdefg", BIG);
    }

    private static void whatStandsBehindCounts() {
        check.sentence("is put in front of the list; more than 200 characters are in it then");
        Counted x = wide();
        check.define(x, 'A', "#".repeat(10));
        String nineteen = "{}".repeat(9) + "a";
        check.sets(x, "A{" + nineteen + "}" + "b".repeat(10), "a".repeat(10) + "b".repeat(10));
        check.paragraph(x, "A{" + nineteen + "}" + "b".repeat(11), BIG);
        check.paragraph(x, "A{" + nineteen + "}" + "b".repeat(10) + ".", BIG);
        // What was taken off before does not.
        check.sets(x, "b".repeat(20) + "A{" + nineteen + "}", "b".repeat(20) + "a".repeat(10));
        check.define(x, 'B', "B" + "a".repeat(23));
        check.paragraph(x, "B", BIG);
    }

    private static void eightGroups() {
        check.sentence("{: a group opens; 8 are open before: BIG");
        Counted x = wide();
        check.sets(x, "{".repeat(8) + "a" + "}".repeat(8), "a");
        check.paragraph(x, "{".repeat(9) + "a" + "}".repeat(9), BIG);
        check.paragraph(x, "{".repeat(9), BIG);
        check.sets(x, "{".repeat(8) + "}a{" + "}".repeat(8), "a");
        check.paragraph(x, "{".repeat(8) + "}a{{" + "}".repeat(9), BIG);
        check.sets(x, "{}".repeat(29) + "a", "a");
        check.define(x, 'A', "{{{{");
        check.define(x, 'B', "}}}}");
        check.sets(x, "AAaBB", "a");
        check.paragraph(x, "AA{a}BB", BIG);
    }

    private static void spaceBehindAGroup() {
        check.sentence("the latest one closes, and SPACE is what it was when that opened");
        Counted x = wide();
        StringBuilder text = new StringBuilder("=1");
        for (int space = 2; space <= 9; space++) {
            text.append("{=").append(space);
        }
        natural(x, text + "~}".repeat(8) + "~a", 9 + 8 + 7 + 6 + 5 + 4 + 3 + 2 + 1 + 5);
        natural(x, "{=9~}~a", 9 + 4 + 5);
        natural(x, "{=9}{~}~a", 4 + 4 + 5);
        natural(x, "=7{}~a", 7 + 5);
    }

    private static void noneIsOpen() {
        check.sentence("}: none is open: SYNTAX");
        Counted x = wide();
        for (String text : new String[] {"}", "a}", "{}}", "{a}b}", "}{", "{{}}}", "}a.", "}" + "{".repeat(9)}) {
            check.paragraph(x, text, SYNTAX);
        }
        check.define(x, 'A', "}");
        check.paragraph(x, "A", SYNTAX);
        check.sets(x, "{aA", "a");
    }

    private static void spaceOneToNine() {
        check.sentence("SPACE becomes that number");
        for (int space = 1; space <= 9; space++) {
            Counted x = wide();
            natural(x, "=" + space + "a a~a", 15 + 2 * space);
            natural(x, "a=" + space + "~", 5 + space);
            natural(x, "a{=" + space + "}~", 5 + 4);
            natural(x, "a=5=" + space + "~", 5 + space);
        }
    }

    private static void noSpace() {
        check.sentence("it isn't there or not a digit 1 .. 9: SYNTAX");
        Counted x = wide();
        for (char macro = 'A'; macro <= 'D'; macro++) {
            check.define(x, macro, "5");
        }
        check.paragraph(x, "=", SYNTAX);
        check.paragraph(x, "a=", SYNTAX);
        check.paragraph(x, "{=}", SYNTAX);
        check.define(x, 'D', "=");
        check.paragraph(x, "aD", SYNTAX);
        natural(x, "D9a a", 19);
        for (char c : OF_LINE.toCharArray()) {
            if (c < '1' || c > '9') {
                check.paragraph(x, "a=" + c, SYNTAX);
            }
        }
        check.due("count(6)", x.count(6), 0);
    }

    private static void faultyCharacters() {
        check.sentence("#, a digit (not behind =) or a point: SYNTAX");
        Counted x = wide();
        for (char c : "#0123456789.".toCharArray()) {
            check.paragraph(x, "" + c, SYNTAX);
            check.paragraph(x, "a{b" + c + "}", SYNTAX);
        }
        check.paragraph(x, "=55", SYNTAX);
        check.paragraph(x, "=5 5", SYNTAX);
        check.due("no setting", x.count(0), 0);
    }

    private static void oneHundredAndTwentyItems() {
        check.sentence("There are 120 ITEMS before: BIG");
        Counted x = wide();
        check.width(x, 'a', 1);
        check.define(x, 'A', "a".repeat(24));
        check.sets(x, "AAAA" + "a".repeat(23) + "-", "a".repeat(119) + "-");
        check.due("ITEMS", x.count(1), 120);
        for (char c : "a-~| ".toCharArray()) {
            check.paragraph(x, "AAAAA" + c, BIG);
        }
        check.paragraph(x, " AAAAA", BIG);
        check.paragraph(x, "|AAAAA", BIG);
        check.paragraph(x, "AAAAAa.", BIG);
        check.paragraph(x, "AAAAA.a", SYNTAX);
    }

    private static void whatIsNoItem() {
        check.sentence("a letter, - ~ | or a blank becomes an ITEM");
        Counted x = wide();
        check.width(x, 'a', 1);
        check.define(x, 'A', "a".repeat(24));
        check.define(x, 'B', "");
        // What becomes no ITEM has room behind 120 of them; one that goes out counts before.
        check.sets(x, "AAAAA{}=5B", "a".repeat(120));
        check.sets(x, " AAAA" + "a".repeat(23), "a".repeat(119));
        check.due("ITEMS", x.count(1), 119);
    }

    private static void openAtTheEnd() {
        check.sentence("Groups are open at the end: SYNTAX");
        Counted x = wide();
        for (String text : new String[] {"{", "a{", "{a", "{{}", "{}{", "{".repeat(8), "{=5"}) {
            check.paragraph(x, text, SYNTAX);
        }
        check.sets(x, "{a}", "a");
        check.paragraph(x, "{".repeat(8) + "}".repeat(7), SYNTAX);
        // Seen in EXPANSION, so before the number of breaks.
        check.paragraph(x, "{" + "a-".repeat(24) + "a", SYNTAX);
        check.paragraph(x, "{" + "a-".repeat(24) + "a}", BIG);
        check.paragraph(x, "{", SYNTAX);
        check.due("no group stays open", x.paragraph(), 0);
        check.paragraph(x, "}", SYNTAX);
    }

    private static void blanksAtTheBeginning() {
        check.sentence("a blank at the beginning ... one after another from the beginning");
        Counted x = wide();
        for (String text : new String[] {" a", "  a", "          a", "{ } a", " { =5 }a", "=9 a"}) {
            check.sets(x, text, "a");
            check.due("ITEMS of \"" + text + "\"", x.count(1), 1);
            check.due("breaks of \"" + text + "\"", x.count(2), 1);
        }
        check.sets(x, "~a", " a");
        check.sets(x, " ~ a", "  a");
        check.due("a ~ stays, and a blank behind it", x.count(1), 3);
    }

    private static void blanksBehind() {
        check.sentence("or right behind a blank or | (as they are then)");
        Counted x = wide();
        natural(x, "=2a =9     b", 10 + 2);
        check.due("ITEMS", x.count(1), 3);
        check.sets(x, "a   b", "a b");
        check.sets(x, "a|b", "a", "b");
        check.sets(x, "a|   b", "a", "b");
        check.due("ITEMS", x.count(1), 3);
        check.sets(x, "a|~ b", "a", "  b");
        check.due("ITEMS", x.count(1), 5);
        check.sets(x, "a- b", "a- b");
        check.due("ITEMS", x.count(1), 4);
        check.sets(x, "a~ ~b", "a   b");
    }

    private static void blanksAtTheEnd() {
        check.sentence("a blank at the end or right before a |");
        Counted x = wide();
        check.sets(x, "a ", "a");
        check.due("ITEMS", x.count(1), 1);
        check.sets(x, "a    ", "a");
        check.due("ITEMS", x.count(1), 1);
        check.sets(x, "a |b", "a", "b");
        check.due("ITEMS", x.count(1), 3);
        check.sets(x, "a    |b ", "a", "b");
        check.due("ITEMS", x.count(1), 3);
        check.sets(x, "a~", "a ");
        check.sets(x, "a~|b", "a ", "b");
        check.due("ITEMS", x.count(1), 4);
        check.sets(x, "a- ", "a-");
        check.due("the - is the last ITEM then", x.count(2), 1);
    }

    private static void bars() {
        check.sentence("each | at the beginning or right behind a | that stayed ...; then a | at the end");
        Counted x = wide();
        check.sets(x, "|a", "a");
        check.sets(x, "|||a", "a");
        check.due("ITEMS", x.count(1), 1);
        check.sets(x, "a||b", "a", "b");
        check.sets(x, "a|||||b", "a", "b");
        check.due("ITEMS", x.count(1), 3);
        check.sets(x, "a|", "a");
        check.sets(x, "a||||", "a");
        check.due("ITEMS", x.count(1), 1);
        check.due("breaks", x.count(2), 1);
        check.sets(x, "||a||b||", "a", "b");
        check.due("ITEMS", x.count(1), 3);
        check.sets(x, "a-||", "a-");
        check.due("the - is the last ITEM then", x.count(2), 1);
    }

    private static void orderOfGoingOut() {
        check.sentence("Then ITEMS go out, in this order");
        Counted x = wide();
        String[] texts = {" | a", "| a", "a | ", "a | | ", "a | | b", "a| | b", "a || b", " | | a | | b | | ", "a  |  |  |  b"};
        int[] items = {1, 1, 1, 1, 3, 3, 3, 3, 3};
        for (int k = 0; k < texts.length; k++) {
            check.paragraph(x, texts[k], items[k] == 1 ? 1 : 2);
            check.due("ITEMS of \"" + texts[k] + "\"", x.count(1), items[k]);
            check.due("letters of \"" + texts[k] + "\"", x.line(0, 2), 5);
        }
    }

    private static void spacesOfThoseThatStay() {
        check.sentence("a blank and a ~ bear the SPACE of now");
        Counted x = wide();
        natural(x, "=9 =2a a", 10 + 2);
        natural(x, "=9  =2a =9 =3~b", 10 + 2 + 3);
        natural(x, "=9| |=2a~a ", 10 + 2);
        check.sets(x, "=9a |=8 | =7b~c", "a", "b c");
        check.due("NATURAL behind what went out", x.line(1, 2), 10 + 7);
    }

    private static void allGoOut() {
        check.sentence("else, without ITEMS: a SETTING without lines, 0");
        for (String text : new String[] {"", " ", "|", "   ", "|||", " | ", "| |", " | | ", "{ }", "{|} ", "=9 "}) {
            Counted x = wide();
            check.sets(x, "a b", "a b");
            check.paragraph(x, text, 0);
            check.same("\"" + text + "\"", Checker.seen(x), "cost 0 counts 0 0 0 0 0 0 0");
        }
        Counted x = wide();
        check.paragraph(x, "~", OVERFULL);
    }
}
