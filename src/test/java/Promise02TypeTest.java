/** Promise 2: type. */
public final class Promise02TypeTest {
    private static final int REFUSED = ParagraphSetter.REFUSED;
    private static final int FULL = ParagraphSetter.FULL;
    private static final String OF_LINE = "abcdefghijklmnopqrstuvwxyzABCD0123456789 -~|{}#=.";

    private static final Checker check = new Checker("Promise02TypeTest");

    public static void main(String[] args) {
        everyCode();
        addsToTheEnd();
        answersTheLength();
        fullLine();
        wrongOneOnAFullLine();
        check.finish();
    }

    private static void everyCode() {
        check.sentence("Adds a character (its code) to the line. Not one of the line's: REFUSED");
        for (int c = -300; c <= 700; c++) {
            boolean isOne = c >= 0 && OF_LINE.indexOf(c) >= 0;
            check.due("type(" + c + ")", check.fresh().type(c), isOne ? 1 : REFUSED);
        }
        Counted x = check.fresh();
        for (int far : Checker.FAR) {
            check.due("type(" + far + ")", x.type(far), REFUSED);
        }
        check.due("count(6)", x.count(6), 0);
    }

    private static void addsToTheEnd() {
        check.sentence("Adds a character");
        Counted x = check.made(400);
        check.type(x, "az~-");
        check.due("type('_')", x.type('_'), REFUSED);
        check.type(x, "y b");
        check.due("paragraph()", x.paragraph(), 1);
        check.lines(x, "az -y b");
    }

    private static void answersTheLength() {
        check.sentence("Answers its length");
        Counted x = check.fresh();
        check.due("the first", x.type('a'), 1);
        check.due("the second", x.type(' '), 2);
        check.due("a wrong one", x.type('_'), REFUSED);
        check.due("the third", x.type('}'), 3);
        x.wipe();
        check.due("the first behind wipe", x.type('a'), 1);
        x.paragraph();
        check.due("the first behind paragraph", x.type('a'), 1);
        x.pattern();
        check.due("the first behind pattern", x.type('a'), 1);
        x.define(0);
        check.due("the first behind define", x.type('a'), 1);
    }

    private static void fullLine() {
        check.sentence("it has 60: FULL");
        for (char c : OF_LINE.toCharArray()) {
            Counted x = check.fresh();
            check.type(x, ("" + c).repeat(60));
            check.due("the 61st, " + c, x.type(c), FULL);
            check.due("and again", x.type('a'), FULL);
            check.due("count(6)", x.count(6), 60);
        }
    }

    private static void wrongOneOnAFullLine() {
        check.sentence("Not one of the line's: REFUSED; else, it has 60: FULL");
        Counted x = check.made(400);
        check.type(x, "a".repeat(59));
        check.due("a wrong one before the 60th", x.type('E'), REFUSED);
        check.due("the 60th", x.type('b'), 60);
        check.due("a wrong one on a full line", x.type('E'), REFUSED);
        for (int far : Checker.FAR) {
            check.due("type(" + far + ") on a full line", x.type(far), REFUSED);
        }
        check.due("the 61st", x.type('.'), FULL);
        check.due("paragraph()", x.paragraph(), 1);
        check.lines(x, "a".repeat(59) + "b");
    }
}
