/** Promise 4: width. */
public final class Promise04WidthTest {
    private static final int DONE = ParagraphSetter.DONE;
    private static final int REFUSED = ParagraphSetter.REFUSED;
    private static final String WITH_WIDTH = "abcdefghijklmnopqrstuvwxyz-";

    private static final Checker check = new Checker("Promise04WidthTest");

    public static void main(String[] args) {
        everyCode();
        everyWidth();
        widthsOutOfRange();
        refusedOnesSetNothing();
        eachItsOwn();
        check.finish();
    }

    private static void natural(Counted x, String text, int want) {
        check.paragraph(x, text, 1);
        check.due("NATURAL of \"" + text + "\"", x.line(0, 2), want);
    }

    private static void everyCode() {
        check.sentence("of the letter or - with the code c: DONE; else REFUSED");
        for (int c = -300; c <= 700; c++) {
            boolean isOne = c >= 0 && WITH_WIDTH.indexOf(c) >= 0;
            check.due("width(" + c + ", 7)", check.fresh().width(c, 7), isOne ? DONE : REFUSED);
        }
        Counted x = check.fresh();
        for (int far : Checker.FAR) {
            check.due("width(" + far + ", 7)", x.width(far, 7), REFUSED);
            check.due("width(" + (far + 'a') + ", 7)", x.width(far + 'a', 7), REFUSED);
            check.due("width(" + (far + '-') + ", 7)", x.width(far + '-', 7), REFUSED);
        }
    }

    private static void everyWidth() {
        check.sentence("Sets the WIDTH (w 1 .. 20)");
        for (char c : WITH_WIDTH.toCharArray()) {
            Counted x = check.made(400);
            for (int w = 1; w <= 20; w++) {
                check.width(x, c, w);
                natural(x, "" + c, w);
            }
        }
    }

    private static void widthsOutOfRange() {
        check.sentence("(w 1 .. 20) ...; else REFUSED");
        int[] refused = {0, -1, 21, 22, 256 + 5, 65536 + 5, Integer.MIN_VALUE, Integer.MAX_VALUE};
        for (char c : "az-".toCharArray()) {
            Counted x = check.made(400);
            for (int w : refused) {
                check.due("width(" + c + ", " + w + ")", x.width(c, w), REFUSED);
                check.due("width('A', " + w + ")", x.width('A', w), REFUSED);
            }
            natural(x, "" + c, 5);
            check.width(x, c, 1);
            check.due("width(" + c + ", 0)", x.width(c, 0), REFUSED);
            natural(x, "" + c, 1);
            check.width(x, c, 20);
            check.due("width(" + c + ", 21)", x.width(c, 21), REFUSED);
            natural(x, "" + c, 20);
        }
    }

    private static void refusedOnesSetNothing() {
        check.sentence("else REFUSED, for what has no WIDTH");
        Counted x = check.made(400);
        for (char c : "`{AZD@ ~|}#=.09,/_".toCharArray()) {
            check.due("width of " + c, x.width(c, 7), REFUSED);
        }
        for (int c : new int[] {-1, 0, 25, 26, -'a', -'-'}) {
            check.due("width(" + c + ", 7)", x.width(c, 7), REFUSED);
        }
        natural(x, WITH_WIDTH + "~a a", 29 * 5 + 4 + 4);
    }

    private static void eachItsOwn() {
        check.sentence("Sets the WIDTH of the letter or -, of no other");
        for (char c : WITH_WIDTH.toCharArray()) {
            Counted x = check.made(400);
            check.width(x, c, 20);
            natural(x, WITH_WIDTH, 26 * 5 + 20);
        }
        // The - that is put behind a line has the WIDTH of any other.
        Counted x = check.made(30);
        check.pattern(x, "b1c");
        check.width(x, '-', 10);
        check.sets(x, "bbbbccc", "bbbb-", "ccc");
        check.due("NATURAL with a - of 10", x.line(0, 2), 30);
    }
}
