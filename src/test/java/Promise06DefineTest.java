/** Promise 6: define. */
public final class Promise06DefineTest {
    private static final int DONE = ParagraphSetter.DONE;
    private static final int REFUSED = ParagraphSetter.REFUSED;
    private static final int FULL = ParagraphSetter.FULL;
    private static final int SYNTAX = ParagraphSetter.SYNTAX;
    private static final String MOST = "abcdefghijklmnopqrstuvwx";

    private static final Checker check = new Checker("Promise06DefineTest");

    public static void main(String[] args) {
        becomesTheBody();
        macroNumbers();
        whateverItHad();
        emptyAfterwards();
        emptyBody();
        faultyBody();
        bodyOfTwentyFour();
        lineOfMore();
        check.finish();
    }

    private static void becomesTheBody() {
        check.sentence("The line becomes the body of macro m");
        Counted x = check.made(400);
        check.define(x, 'A', "ab~c-");
        check.sets(x, "A", "ab c-");
        check.sets(x, "xAyA", "xab c-yab c-");
        check.due("macros called", x.count(4), 2);
    }

    private static void macroNumbers() {
        check.sentence("macro m (0 .. 3 for A .. D, else REFUSED)");
        Counted x = check.made(400);
        for (int m = 0; m <= 3; m++) {
            check.type(x, "wxyz".substring(m, m + 1));
            check.due("define(" + m + ")", x.define(m), DONE);
        }
        check.sets(x, "ABCD", "wxyz");
        check.type(x, "v");
        for (int m : new int[] {-1, 4, 5, 'A', 'D'}) {
            check.due("define(" + m + ")", x.define(m), REFUSED);
        }
        for (int far : Checker.FAR) {
            check.due("define(" + far + ")", x.define(far), REFUSED);
        }
        check.due("the line stays", x.count(6), 1);
        check.due("paragraph()", x.paragraph(), 1);
        check.lines(x, "v");
        check.sets(x, "ABCD", "wxyz");
    }

    private static void whateverItHad() {
        check.sentence("whatever it had");
        Counted x = check.made(400);
        for (String body : new String[] {MOST, "ab", "", "c", "cd"}) {
            check.define(x, 'A', body);
            check.sets(x, "yAz", "y" + body + "z");
        }
        check.define(x, 'A', "#");
        check.paragraph(x, "A", SYNTAX);
        check.sets(x, "Ac", "c");
        check.define(x, 'A', "e");
        check.sets(x, "Ac", "ec");
    }

    private static void emptyAfterwards() {
        check.sentence("and is empty afterwards ... DONE");
        Counted x = check.fresh();
        check.type(x, "ab");
        check.due("define(0)", x.define(0), DONE);
        check.due("count(6)", x.count(6), 0);
        check.due("the next character", x.type('c'), 1);
        check.due("define(1)", x.define(1), DONE);
        check.sets(x, "AB", "abc");
    }

    private static void emptyBody() {
        check.sentence("The line becomes the body, if it is empty, too");
        Counted x = check.fresh();
        check.due("define(3)", x.define(3), DONE);
        check.paragraph(x, "D", 0);
        check.due("macros called", x.count(4), 1);
        check.sets(x, "aDb", "ab");
    }

    private static void faultyBody() {
        check.sentence("The line becomes the body, whatever characters it has");
        Counted x = check.fresh();
        for (String body : new String[] {"}", "{", "=", ".", "9", "#}", "=}#{.0"}) {
            check.define(x, 'B', body);
            check.paragraph(x, "Ba", SYNTAX);
        }
        check.define(x, 'B', "{");
        check.sets(x, "Ba}", "a");
    }

    private static void bodyOfTwentyFour() {
        check.sentence("It has more than 24 characters: FULL - 24 are taken");
        Counted x = check.made(400);
        for (char macro = 'A'; macro <= 'D'; macro++) {
            check.define(x, macro, MOST);
            check.sets(x, "" + macro, MOST);
        }
    }

    private static void lineOfMore() {
        check.sentence("It has more than 24 characters: FULL (it stays)");
        Counted x = check.made(400);
        check.define(x, 'A', "a");
        check.type(x, MOST + "y");
        check.due("define(0) with 25", x.define(0), FULL);
        check.due("define(1) with 25", x.define(1), FULL);
        check.due("the line stays", x.count(6), 25);
        check.due("it can be set", x.paragraph(), 1);
        check.lines(x, MOST + "y");
        check.sets(x, "A", "a");
        check.paragraph(x, "B", SYNTAX);
        check.type(x, "a".repeat(60));
        check.due("define(0) with 60", x.define(0), FULL);
        check.due("the line stays", x.count(6), 60);
    }
}
