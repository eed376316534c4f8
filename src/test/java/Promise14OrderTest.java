/** Promise 14: order and limits, and the calls that answers are promised for. */
public final class Promise14OrderTest {
    private static final int DONE = ParagraphSetter.DONE;
    private static final int REFUSED = ParagraphSetter.REFUSED;
    private static final int FULL = ParagraphSetter.FULL;

    private static final Checker check = new Checker("Promise14OrderTest");

    public static void main(String[] args) {
        wrongNumberFirst();
        everyLength();
        lastPromisedCall();
        check.finish();
    }

    private static void wrongNumberFirst() {
        check.sentence("define: a wrong m is seen before a line of more than 24 characters");
        Counted x = check.fresh();
        check.type(x, "a".repeat(25));
        for (int m : new int[] {-1, 4, 5, Integer.MIN_VALUE, Integer.MAX_VALUE}) {
            check.due("define(" + m + ") with 25", x.define(m), REFUSED);
        }
        for (int m = 0; m <= 3; m++) {
            check.due("define(" + m + ") with 25", x.define(m), FULL);
        }
        check.due("the line stays", x.count(6), 25);
        check.type(x, "a".repeat(35));
        check.due("define(4) with 60", x.define(4), REFUSED);
        check.due("define(-1) with 60", x.define(-1), REFUSED);
        check.due("define(3) with 60", x.define(3), FULL);
        check.due("the line stays", x.count(6), 60);
    }

    private static void everyLength() {
        check.sentence("define: a wrong m is seen before a line of more than 24 characters - for lines of each length");
        for (int length = 0; length <= 60; length++) {
            Counted x = check.fresh();
            check.type(x, "a".repeat(length));
            check.due("define(4) with " + length, x.define(4), REFUSED);
            check.due("define(-1) with " + length, x.define(-1), REFUSED);
            check.due("define(0) with " + length, x.define(0), length > 24 ? FULL : DONE);
            check.due("the line behind it", x.count(6), length > 24 ? length : 0);
        }
    }

    private static void lastPromisedCall() {
        check.sentence("An object is used for at most 512 calls after it has been made");
        Counted x = check.fresh();
        for (int k = 1; k <= 20; k++) {
            x.type('b');
            x.type('1');
            x.type('c');
            check.due("pattern()", x.pattern(), k);
        }
        for (int m = 0; m < 4; m++) {
            check.due("define(" + m + ")", x.define(m), DONE);
        }
        check.parameter(x, 0, 25);
        while (x.calls() < 450) {
            x.type('a');
            x.type('A');
            check.due("paragraph()", x.paragraph(), 1);
        }
        while (x.calls() < 510) {
            x.type('}');
        }
        check.due("paragraph(), the 511th call", x.paragraph(), ParagraphSetter.SYNTAX);
        check.due("character(0, 0), the 512th call", x.character(0, 0), 'a');
        check.due("calls", x.calls(), 512);
    }
}
