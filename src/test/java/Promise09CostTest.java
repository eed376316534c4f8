/** Promise 9: cost. */
public final class Promise09CostTest {
    private static final int SYNTAX = ParagraphSetter.SYNTAX;
    private static final int BIG = ParagraphSetter.BIG;
    private static final int OVERFULL = ParagraphSetter.OVERFULL;

    private static final Checker check = new Checker("Promise09CostTest");

    public static void main(String[] args) {
        noneThere();
        latestSetting();
        sumOfLines();
        stretchedAndShrunk();
        hyphens();
        moreThanAnInt();
        asItWasWhenMade();
        check.finish();
    }

    private static void noneThere() {
        check.sentence("0 if there was none");
        Counted x = check.fresh();
        check.due("cost()", x.cost(), 0);
        check.paragraph(x, "aaaaaaaaaaaaa", OVERFULL);
        check.due("cost() behind OVERFULL", x.cost(), 0);
        check.paragraph(x, "}", SYNTAX);
        check.due("cost() behind SYNTAX", x.cost(), 0);
        check.paragraph(x, "a-".repeat(25) + "a", BIG);
        check.due("cost() behind BIG", x.cost(), 0);
    }

    private static void latestSetting() {
        check.sentence("of the latest SETTING");
        Counted x = check.fresh();
        check.paragraph(x, "a|b|c", 3);
        check.due("cost()", x.cost(), 300);
        check.due("cost() again", x.cost(), 300);
        check.paragraph(x, ".", SYNTAX);
        check.due("cost()", x.cost(), 300);
        check.paragraph(x, "aaaaaaaaaaaaa", OVERFULL);
        check.due("cost()", x.cost(), 300);
        check.paragraph(x, "a", 1);
        check.due("cost()", x.cost(), 100);
        check.paragraph(x, "", 0);
        check.due("cost() of a SETTING without lines", x.cost(), 0);
    }

    private static void sumOfLines() {
        check.sentence("The sum of the COSTS");
        for (int lines = 1; lines <= 24; lines++) {
            Counted x = check.made(10);
            check.paragraph(x, "a|".repeat(lines), lines);
            check.due("cost() of " + lines + " lines", x.cost(), 100 * lines);
        }
        Counted x = check.made(10, 200, 0);
        check.paragraph(x, "a|b", 2);
        check.due("cost() with LINE 0", x.cost(), 0);
        check.parameter(x, 2, 100);
        check.paragraph(x, "a|b", 2);
        check.due("cost() with LINE 100", x.cost(), 20000);
    }

    private static void stretchedAndShrunk() {
        check.sentence("Its COST is (LINE + BADNESS)^2");
        Counted x = check.made(60);
        check.sets(x, "=9aaa bbb ccc ddd", "aaa bbb ccc", "ddd");
        check.due("cost() with a badness of 12", x.cost(), 22 * 22 + 100);
        check.parameter(x, 0, 61);
        check.sets(x, "=9aaa bbb~cc ddd", "aaa bbb cc", "ddd");
        check.due("cost() with a badness of 2", x.cost(), 12 * 12 + 100);
        check.parameter(x, 0, 17);
        check.sets(x, "=9c~d|=9c d", "c d", "c d");
        check.due("cost() with a badness of 29, twice", x.cost(), 2 * 39 * 39);
    }

    private static void hyphens() {
        check.sentence("plus HYPHEN^2 if j is of kind 2, plus DOUBLE if i is too");
        Counted x = check.made(25, 200, 10, 50, 10000);
        check.pattern(x, "b1c");
        check.pattern(x, "d1e");
        check.sets(x, "aabbccdd", "aabb-", "ccdd");
        check.due("cost() with one", x.cost(), 2600 + 100);
        // The last line begins at a hyphen, but does not end at one: no DOUBLE for it.
        check.sets(x, "aabbccddeeff", "aabb-", "ccdd-", "eeff");
        check.due("cost() with two together", x.cost(), 2600 + 2600 + 10000 + 100);
        check.sets(x, "aabbccccc ccddeee", "aabb-", "ccccc", "ccdd-", "eee");
        check.due("cost() with two that are not together", x.cost(), 2600 + 100 + 2600 + 100);
        check.sets(x, "aabb-ccdd", "aabb-", "ccdd");
        check.due("cost() with a - of the text", x.cost(), 200);
    }

    private static void moreThanAnInt() {
        check.sentence("long cost()");
        Counted x = check.made(50, 10000, 100);
        check.width(x, 'a', 9);
        check.define(x, 'A', "a~a a~a a~a a~a a~a a~a ");
        check.paragraph(x, "=9AAAA", 24);
        check.told(x, 0, 1, 0, 27, 23, 9733, 2);
        check.told(x, 23, 24, 4, 27, 23, 0, 2);
        check.due("cost()", x.cost(), 23L * 9833 * 9833 + 10000);
        check.that("more than an int holds", x.cost() > Integer.MAX_VALUE);
    }

    private static void asItWasWhenMade() {
        check.sentence("What is told of a SETTING goes by the WIDTHS and PARAMETERS as they were when it was made");
        Counted x = check.made(60);
        check.sets(x, "=9aaa bbb ccc ddd", "aaa bbb ccc", "ddd");
        int[] values = {400, 0, 100, 200, 10000};
        for (int i = 0; i < values.length; i++) {
            check.parameter(x, i, values[i]);
            check.due("cost()", x.cost(), 22 * 22 + 100);
        }
        check.width(x, 'a', 20);
        check.due("cost()", x.cost(), 22 * 22 + 100);
    }
}
