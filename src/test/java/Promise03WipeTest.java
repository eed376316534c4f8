/** Promise 3: wipe. */
public final class Promise03WipeTest {
    private static final int DONE = ParagraphSetter.DONE;

    private static final Checker check = new Checker("Promise03WipeTest");

    public static void main(String[] args) {
        emptyLine();
        someOnTheLine();
        fullLine();
        leavesTheRest();
        check.finish();
    }

    private static void emptyLine() {
        check.sentence("Empties the line: DONE - one that is empty");
        Counted x = check.fresh();
        check.due("wipe()", x.wipe(), DONE);
        check.due("wipe()", x.wipe(), DONE);
        check.same("wipe()", Checker.seen(x), Checker.NOTHING_SEEN);
    }

    private static void someOnTheLine() {
        check.sentence("Empties the line: DONE");
        Counted x = check.fresh();
        check.type(x, "ab{");
        check.due("wipe()", x.wipe(), DONE);
        check.due("count(6)", x.count(6), 0);
        check.due("pattern() of what is left", x.pattern(), ParagraphSetter.SYNTAX);
        check.due("paragraph() of what is left", x.paragraph(), 0);
        check.type(x, "ab.");
        check.due("wipe()", x.wipe(), DONE);
        check.sets(x, "c", "c");
    }

    private static void fullLine() {
        check.sentence("Empties the line: DONE - one that is full");
        Counted x = check.made(400);
        check.type(x, "b".repeat(60));
        check.due("wipe()", x.wipe(), DONE);
        check.due("count(6)", x.count(6), 0);
        check.sets(x, "a".repeat(60), "a".repeat(60));
    }

    private static void leavesTheRest() {
        check.sentence("Empties the line, and nothing else");
        Counted x = check.made(40);
        check.width(x, 'd', 7);
        check.define(x, 'A', "d");
        check.pattern(x, "a1b");
        check.sets(x, "c A", "c d");
        String before = Checker.seen(x);
        check.type(x, "zz");
        check.due("wipe()", x.wipe(), DONE);
        check.same("wipe()", Checker.seen(x), before);
        check.sets(x, "A-aabb", "d-aabb");
        check.told(x, 0, 3, 4, 32, 8, 0, 5);
    }
}
