/** Promise 13: count. */
public final class Promise13CountTest {
    private static final int REFUSED = ParagraphSetter.REFUSED;
    private static final int SYNTAX = ParagraphSetter.SYNTAX;
    private static final int BIG = ParagraphSetter.BIG;
    private static final int OVERFULL = ParagraphSetter.OVERFULL;

    private static final Checker check = new Checker("Promise13CountTest");

    public static void main(String[] args) {
        allOfThem();
        lines();
        items();
        breaks();
        points();
        macrosCalled();
        patterns();
        length();
        noneThere();
        withoutItems();
        refusedParagraphs();
        anotherWhat();
        check.finish();
    }

    private static void counts(Counted x, int... want) {
        for (int what = 0; what < want.length; what++) {
            check.due("count(" + what + ")", x.count(what), want[what]);
        }
    }

    private static void allOfThem() {
        check.sentence("Lines of the latest SETTING (0), its ITEMS (1), its breaks (2), ... PATTERNS (5), the line's length (6)");
        Counted x = check.made(25);
        check.pattern(x, "b1c");
        check.pattern(x, "c1c");
        check.define(x, 'A', "bb");
        check.paragraph(x, " aaAcc | ", 2);
        check.type(x, "abc");
        counts(x, 2, 6, 2, 1, 1, 2, 3);
    }

    private static void lines() {
        check.sentence("Lines of the latest SETTING (0)");
        for (int lines = 1; lines <= 24; lines++) {
            Counted x = check.made(10);
            check.paragraph(x, "a|".repeat(lines), lines);
            check.due("count(0)", x.count(0), lines);
        }
    }

    private static void items() {
        check.sentence("its ITEMS (1)");
        Counted x = check.made(400);
        check.width(x, 'z', 1);
        String[] texts = {"a", "a b", "a-b~c|d", "  a  b  ", "|a||b|", "{=5a}", "~a", "a~ ~b"};
        int[] want = {1, 3, 7, 3, 3, 1, 2, 5};
        for (int k = 0; k < texts.length; k++) {
            check.type(x, texts[k]);
            x.paragraph();
            check.due("count(1) of \"" + texts[k] + "\"", x.count(1), want[k]);
        }
        check.define(x, 'A', "z".repeat(24));
        check.paragraph(x, "AAAAA", 1);
        check.due("count(1)", x.count(1), 120);
    }

    private static void breaks() {
        check.sentence("its breaks (2");
        Counted x = check.made(400);
        check.pattern(x, "a1b");
        String[] texts = {"a", "a b", "a-b", "a-", "aabb", "a~b", "aabb-aabb c"};
        int[] want = {1, 2, 2, 1, 2, 1, 5};
        for (int k = 0; k < texts.length; k++) {
            check.paragraph(x, texts[k], 1);
            check.due("count(2) of \"" + texts[k] + "\"", x.count(2), want[k]);
        }
        check.paragraph(x, "a|b", 2);
        check.due("count(2)", x.count(2), 2);
        check.paragraph(x, "a ".repeat(23) + "a", 1);
        check.due("count(2)", x.count(2), 24);
    }

    private static void points() {
        check.sentence("its HYPHENATION POINTS (3)");
        Counted x = check.made(400);
        check.pattern(x, "1a");
        for (int m = 1; m <= 26; m++) {
            check.paragraph(x, "a".repeat(m), 1);
            check.due("count(3) of " + m + " letters", x.count(3), Math.max(0, m - 3));
        }
        check.paragraph(x, "aaaa aa-aaaaa", 1);
        check.due("count(3) of three words", x.count(3), 1 + 2);
        // A pattern that comes later changes nothing of the SETTING.
        check.pattern(x, "2a");
        check.due("count(3)", x.count(3), 3);
    }

    private static void macrosCalled() {
        check.sentence("macros called in its EXPANSION (4)");
        Counted x = check.made(400);
        check.define(x, 'A', "");
        check.define(x, 'B', "AA");
        check.define(x, 'C', "#");
        String[] texts = {"a", "aA", "aAA", "aB", "aBA", "aCb", "aC{BA}", "a" + "A".repeat(40)};
        int[] want = {0, 1, 2, 3, 4, 1, 5, 40};
        for (int k = 0; k < texts.length; k++) {
            check.paragraph(x, texts[k], 1);
            check.due("count(4) of \"" + texts[k] + "\"", x.count(4), want[k]);
        }
    }

    private static void patterns() {
        check.sentence("PATTERNS (5)");
        Counted x = check.fresh();
        for (int k = 1; k <= 20; k++) {
            check.pattern(x, "a");
            check.due("count(5)", x.count(5), k);
        }
        check.type(x, "a");
        check.due("the 21st", x.pattern(), ParagraphSetter.FULL);
        check.due("count(5)", x.count(5), 20);
    }

    private static void length() {
        check.sentence("the line's length (6)");
        Counted x = check.fresh();
        for (int k = 1; k <= 60; k++) {
            x.type('a');
            check.due("count(6)", x.count(6), k);
        }
        x.type('a');
        check.due("count(6) of a full line", x.count(6), 60);
        x.wipe();
        check.due("count(6) behind wipe", x.count(6), 0);
    }

    private static void noneThere() {
        check.sentence("0 each if there was none");
        Counted x = check.made(61);
        counts(x, 0, 0, 0, 0, 0, 0, 0);
        check.pattern(x, "1a");
        check.define(x, 'A', "aaaa");
        check.type(x, "A");
        counts(x, 0, 0, 0, 0, 0, 1, 1);
        x.wipe();
        String[] texts = {"AAAA", "A}", "-".repeat(25)};
        int[] answers = {OVERFULL, SYNTAX, BIG};
        for (int k = 0; k < texts.length; k++) {
            check.paragraph(x, texts[k], answers[k]);
            counts(x, 0, 0, 0, 0, 0, 1, 0);
        }
    }

    private static void withoutItems() {
        check.sentence("(2; without ITEMS none)");
        Counted x = check.fresh();
        check.define(x, 'A', "|");
        check.paragraph(x, "a-b", 1);
        counts(x, 1, 3, 2, 0, 0, 0, 0);
        check.paragraph(x, "A A", 0);
        counts(x, 0, 0, 0, 0, 2, 0, 0);
        check.paragraph(x, "", 0);
        counts(x, 0, 0, 0, 0, 0, 0, 0);
    }

    private static void refusedParagraphs() {
        check.sentence("of the latest SETTING - a refused paragraph makes none");
        Counted x = check.made(25);
        check.pattern(x, "b1c");
        check.define(x, 'A', "bb");
        check.paragraph(x, "aaAcc", 2);
        String[] texts = {"AAA.", "A".repeat(41), "-".repeat(25), "aaaaaaA"};
        int[] answers = {SYNTAX, BIG, BIG, OVERFULL};
        for (int k = 0; k < texts.length; k++) {
            check.paragraph(x, texts[k], answers[k]);
            counts(x, 2, 6, 2, 1, 1, 1, 0);
        }
    }

    private static void anotherWhat() {
        check.sentence("another what: REFUSED");
        Counted x = check.fresh();
        for (int round = 0; round < 2; round++) {
            check.due("count(-1)", x.count(-1), REFUSED);
            check.due("count(7)", x.count(7), REFUSED);
            for (int far : Checker.FAR) {
                check.due("count(" + far + ")", x.count(far), REFUSED);
            }
            check.paragraph(x, "a|b", 2);
        }
    }
}
