/** Promise 8, as far as EXPANSION, the ITEMS that go out, HYPHENATION POINTS and BREAKS. */
public final class Promise08ExpansionTest {
    private static final int SYNTAX = ParagraphSetter.SYNTAX;
    private static final int BIG = ParagraphSetter.BIG;
    private static final int OVERFULL = ParagraphSetter.OVERFULL;

    private static final Checker check = new Checker("Promise08ExpansionTest");

    public static void main(String[] args) {
        faults();
        arguments();
        callLimit();
        listLimit();
        longArgument();
        longExpansion();
        itemLimit();
        groups();
        spaces();
        itemsThatGoOut();
        hyphenation();
        patternsAtEdges();
        breaks();
        linesAtBreaks();
        refusedParagraphs();
        check.finish();
    }

    private static Counted wide() {
        Counted x = check.fresh();
        check.due("measure", x.parameter(0, 400), 0);
        return x;
    }

    /** A paragraph of a single line with these characters. */
    private static void becomes(Counted x, String text, String line) {
        check.paragraph(x, text, 1);
        check.lines(x, line);
    }

    private static void faults() {
        Counted x = wide();
        check.define(x, 'A', "x#y");
        String[] faulty = {"#", "0", "7a", "a.", "=", "a=", "=0", "=a", "= ", "={", "=A", "=#", "}", "a}", "{}}", "{", "{a",
            "{{}", "A", "A}", "{A}", "A{", "A{b", "A{{b}", "B", "aBa", "A#", "A0", "A.", "A=", "=5=", "==5"};
        for (String text : faulty) {
            check.paragraph(x, text, SYNTAX);
        }
        check.due("setting", x.count(0), 0);
        becomes(x, "=1a=9b", "ab");
    }

    private static void arguments() {
        Counted x = wide();
        check.define(x, 'A', "x#y");
        check.define(x, 'B', "#");
        check.define(x, 'C', "c");
        check.define(x, 'D', "#-#");
        becomes(x, "Ab", "xby");
        becomes(x, "A b", "x yb");
        becomes(x, "A{}b", "xyb");
        becomes(x, "A{pq}b", "xpqyb");
        becomes(x, "A{p{q}r}b", "xpqryb");
        becomes(x, "A{{}}b", "xyb");
        becomes(x, "C{pq}", "cpq");
        becomes(x, "D{ab}", "ab-ab");
        becomes(x, "Da", "a-a");
        check.due("macros called", x.count(4), 1);
        becomes(x, "BAd", "xdy");
        check.due("macros called", x.count(4), 2);
        becomes(x, "AAab", "xxyyab");
        becomes(x, "A{Ab}", "xxbyy");
        becomes(x, "DC", "c-c");
        check.due("macros called", x.count(4), 3);
        becomes(x, "B{=9}a a", "a a");
        check.due("a space set in an argument", x.line(0, 2), 19);
        becomes(x, "aBB{b}c", "abc");
    }

    private static String many(String text, int times) {
        return text.repeat(times);
    }

    private static void callLimit() {
        Counted x = wide();
        check.define(x, 'A', "");
        check.define(x, 'B', "#");
        check.paragraph(x, many("A", 40) + "a", 1);
        check.due("macros called", x.count(4), 40);
        check.paragraph(x, many("A", 41) + "a", BIG);
        check.paragraph(x, many("A", 40) + "C", SYNTAX);
        check.paragraph(x, many("A", 40) + "B", BIG);
        check.paragraph(x, many("A", 39) + "B", SYNTAX);
        check.paragraph(x, many("A", 40), 0);
        check.due("macros called", x.count(4), 40);
        check.define(x, 'D', "D");
        check.paragraph(x, "D", BIG);
        check.paragraph(x, ".D", SYNTAX);
    }

    private static void listLimit() {
        Counted x = wide();
        check.define(x, 'A', many("#", 10));
        check.paragraph(x, "A{" + many("{}", 10) + "}", 0);
        check.paragraph(x, "A{" + many("{}", 10) + " }", BIG);
        // The list counts whole, what was behind the call too, but not what was taken off.
        check.paragraph(x, "A{" + many("{}", 10) + "} ", BIG);
        check.paragraph(x, "    A{" + many("{}", 10) + "}", 0);
        check.paragraph(x, "A{" + many("{}", 9) + "a}" + many("{}", 5), 1);
        check.lines(x, many("a", 10));
        check.paragraph(x, "A{" + many("{}", 9) + "a}" + many("{}", 5) + "a", BIG);
    }

    private static void longArgument() {
        Counted x = wide();
        check.define(x, 'A', "B{" + many("#", 9) + "}");
        check.define(x, 'B', "#");
        // The argument of B has nine times twenty characters.
        becomes(x, "A{" + many("{}", 9) + "ab}z", many("ab", 9) + "z");
        check.due("macros called", x.count(4), 2);
        check.define(x, 'B', "##");
        check.paragraph(x, "A{" + many("{}", 9) + "ab}z", BIG);
    }

    private static void longExpansion() {
        Counted x = wide();
        check.define(x, 'A', many("#", 9));
        check.define(x, 'B', "A{" + many("{}", 10) + "}");
        // Forty calls, with twenty times 180 characters that become no item.
        becomes(x, many("B", 20) + "b", "b");
        check.due("macros called", x.count(4), 40);
        check.paragraph(x, many("B", 20) + "b.", BIG);
        check.paragraph(x, many("B", 19) + "b.", SYNTAX);
        becomes(x, "a" + many("B", 19) + "bc", "abc");
    }

    private static void itemLimit() {
        Counted x = wide();
        check.due("width", x.width('a', 1), 0);
        check.define(x, 'A', many("a", 24));
        becomes(x, many("A", 5), many("a", 120));
        check.due("items", x.count(1), 120);
        check.paragraph(x, many("A", 5) + "a", BIG);
        // They count before the blanks go out.
        check.paragraph(x, many("A", 5) + " ", BIG);
        check.paragraph(x, " " + many("A", 5), BIG);
        check.paragraph(x, many("A", 5) + "a.", BIG);
        check.paragraph(x, many("A", 5) + ".a", SYNTAX);
        check.paragraph(x, many("A", 5) + "{=5}", 1);
    }

    private static void groups() {
        Counted x = wide();
        becomes(x, many("{", 8) + "a" + many("}", 8), "a");
        check.paragraph(x, many("{", 9) + "a" + many("}", 9), BIG);
        check.paragraph(x, many("{", 9), BIG);
        check.paragraph(x, many("{", 8), SYNTAX);
        check.paragraph(x, "." + many("{", 9), SYNTAX);
        check.paragraph(x, many("{}", 30), 0);
    }

    private static void spaces() {
        Counted x = wide();
        check.paragraph(x, "a a", 1);
        check.due("at first 4", x.line(0, 2), 14);
        check.paragraph(x, "a{=9 a} a", 1);
        check.due("9 inside, 4 behind", x.line(0, 2), 15 + 9 + 4);
        check.paragraph(x, "=7a{=9{=2~a}~a} a", 1);
        check.due("2, 9, 7", x.line(0, 2), 20 + 2 + 9 + 7);
        check.define(x, 'A', "=3");
        check.define(x, 'B', "{=3#}");
        check.paragraph(x, "aA a", 1);
        check.due("a macro is no group", x.line(0, 2), 13);
        check.paragraph(x, "aB{ b} a", 1);
        check.due("but may have one", x.line(0, 2), 15 + 3 + 4);
        check.paragraph(x, "=9a{=2 } a", 1);
        check.due("the first of two blanks stays, with its space", x.line(0, 2), 12);
        check.paragraph(x, " {=2 }=8a=3  {=7|} b=6~", 2);
        check.due("each of the others keeps its own", x.line(1, 2), 11);
        check.paragraph(x, "  =8a =3|| b=6~c =2d ", 2);
        check.due("each of the others keeps its own", x.line(1, 2), 15 + 6 + 6);
    }

    private static void items(Counted x, String text, int items) {
        check.type(x, text);
        x.paragraph();
        check.due("items of \"" + text + "\"", x.count(1), items);
    }

    private static void itemsThatGoOut() {
        Counted x = wide();
        items(x, "   a", 1);
        items(x, "a   ", 1);
        items(x, "a   b", 3);
        items(x, "a | b", 3);
        items(x, "a  |  | b", 3);
        items(x, "a|||b", 3);
        items(x, "|||a", 1);
        items(x, "a|||", 1);
        items(x, " | | a | b | | ", 3);
        items(x, "a~ ~b", 5);
        items(x, "a{ } { }b", 3);
        items(x, "~a~", 3);
        items(x, "- -", 3);
        items(x, "| a b |", 3);
        for (String nothing : new String[] {"", " ", "|", " | ", "|| |", "  |  |  ", "{}", "=5"}) {
            check.paragraph(x, "a", 1);
            check.paragraph(x, nothing, 0);
            for (int what = 0; what <= 5; what++) {
                check.due("\"" + nothing + "\": count(" + what + ")", x.count(what), 0);
            }
            check.due("cost()", x.cost(), 0);
            check.due("line(0, 0)", x.line(0, 0), ParagraphSetter.REFUSED);
        }
    }

    private static void points(String word, int points, String... patterns) {
        Counted x = wide();
        for (String pattern : patterns) {
            check.pattern(x, pattern);
        }
        check.paragraph(x, word, 1);
        check.due("points of \"" + word + "\" by " + String.join(" ", patterns), x.count(3), points);
    }

    private static void hyphenation() {
        points("aabb", 0);
        points("aabb", 1, "a1b");
        points("aabb", 0, "a2b");
        points("aabb", 0, "ab");
        points("aabb", 0, "a1b", "a2b");
        points("aabb", 0, "a2b", "a1b");
        points("aabb", 1, "a1b", "a2b", "ab", "a9b");
        points("aabb", 0, "a7b", "aa8bb");
        points("abb", 0, "a1b");
        points("abbb", 0, "a1b");
        points("aaab", 0, "a1b");
        points("aabab", 1, "a1b");
        points("aabbaabb", 2, "a1b");
        points("aabbaabb", 3, "a1b", "b1a");
        points("aabb-aabb", 2, "a1b");
        points("aabb~aabb", 2, "a1b");
        points("aa-bb", 0, "a1b");
        points("-abb", 0, "a1b");
        points("~aabb", 1, "a1b");
        points("aa{b}b", 1, "a1b");
        points("aaaaaa", 3, "a1a");
        points("aaaaaa", 3, "a1");
        points("aaaaaa", 3, "1a");
        points("aaaaaa", 0, "1b");
        points("aabbb", 1, "aab1bb");
        points("aabbb", 0, "aab1bc");
        points("abcdefgh", 1, "bcd3ef");
        points("abcdefgh", 2, "1c", "f1");
    }

    private static void patternsAtEdges() {
        points("aaaaaa", 1, ".aa1");
        points("aaaaaa", 1, "1aa.");
        points("aaaaaa", 0, ".a1");
        points("aaaaaa", 0, "1a.");
        points("aaaaaa", 1, ".aa1aa");
        points("aaaaaa", 0, ".aa1b");
        points("aaa-aaaa", 1, ".aa1");
        points("aaaa-aaaa", 2, ".aa1");
        points("aaaa aaaa", 2, "1aa.");
        points("aaaa", 0, ".aaa.");
        points("aaaa", 0, "1.");
        points("aaaa", 0, ".1");
        points("aaaa", 0, "1.1.1");
        points("abab", 1, "a2b1a");
    }

    private static void counted(Counted x, String text, int breaks) {
        check.paragraph(x, text, 1);
        check.due("breaks of \"" + text + "\"", x.count(2), breaks);
    }

    private static void breaks() {
        Counted x = wide();
        check.pattern(x, "a1b");
        counted(x, "a", 1);
        counted(x, "-", 1);
        counted(x, "a-", 1);
        counted(x, "a-b", 2);
        counted(x, "--", 2);
        counted(x, "a b~c", 2);
        counted(x, "a- b", 3);
        counted(x, "aabb-aabb c", 5);
        counted(x, many("a-", 23) + "a", 24);
        check.paragraph(x, many("a-", 24) + "a", BIG);
        check.paragraph(x, many("a-", 30), BIG);
        counted(x, many("a-", 24), 24);
        check.paragraph(x, many("a-", 22) + "aabb c", BIG);
        counted(x, many("a-", 22) + "aabb", 24);
    }

    private static void linesAtBreaks() {
        Counted x = check.fresh();
        check.due("measure", x.parameter(0, 10), 0);
        check.paragraph(x, many("a-", 24) + "a~~~~", BIG);
        check.paragraph(x, many("a|", 23) + "a", 24);
        check.due("breaks", x.count(2), 24);
        check.due("the last of 24 lines", x.line(23, 0), 24);
        check.paragraph(x, many("a|", 24) + "a", BIG);
    }

    private static void refusedParagraphs() {
        Counted x = check.fresh();
        check.define(x, 'A', "b");
        check.paragraph(x, "aA|b-", 2);
        String[] texts = {".", many("{", 9), many("a-", 24) + "a", "aaaaaaaaaaaaa", "~", "b|~", "~|b"};
        int[] answers = {SYNTAX, BIG, BIG, OVERFULL, OVERFULL, OVERFULL, OVERFULL};
        for (int k = 0; k < texts.length; k++) {
            check.paragraph(x, texts[k], answers[k]);
            check.lines(x, "ab", "b-");
            check.told(x, 0, 1, 3, 10, 50, 0, 2);
            check.told(x, 1, 2, 4, 10, 50, 0, 1);
            check.due("items", x.count(1), 5);
            check.due("breaks", x.count(2), 2);
            check.due("macros called", x.count(4), 1);
            check.due("cost()", x.cost(), 200);
        }
        check.due("an empty line", x.paragraph(), 0);
        check.due("lines", x.count(0), 0);
    }
}
