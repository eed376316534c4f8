/** Promise 12: place. */
public final class Promise12PlaceTest {
    private static final int REFUSED = ParagraphSetter.REFUSED;

    private static final Checker check = new Checker("Promise12PlaceTest");

    public static void main(String[] args) {
        widthsAndSpaces();
        stretchedLines();
        shrunkLines();
        roundedDown();
        byStretchOrShrink();
        looseLines();
        exactLines();
        hyphen();
        noSuchCharacter();
        noSuchLine();
        asItWasWhenMade();
        check.finish();
    }

    private static void widthsAndSpaces() {
        check.sentence("Where character k of line i begins: the WIDTHS and SPACES before it");
        Counted x = check.made(400);
        check.width(x, 'b', 7);
        check.width(x, '-', 2);
        check.width(x, 'z', 20);
        check.sets(x, "a=9~b-=1 z{=3~}az", "a b- z az");
        check.places(x, 0, 0, 5, 14, 21, 23, 24, 44, 47, 52);
    }

    private static void stretchedLines() {
        check.sentence("D * s / S more: D above 0");
        Counted x = check.made(61);
        check.sets(x, "=9aaa bbb~cc ddd", "aaa bbb cc", "ddd");
        // 3 * 5 / 10 more, rounded down: 1.
        check.places(x, 0, 0, 5, 10, 15, 25, 30, 35, 40, 51, 56);
        check.places(x, 1, 0, 5, 10);
    }

    private static void shrunkLines() {
        check.sentence("D * s / S more: D below 0");
        Counted x = check.made(60);
        check.sets(x, "=9aaa bbb ccc ddd", "aaa bbb ccc", "ddd");
        // 3 * 3 / 6 less is 1 and a half less: rounded down, 2 less.
        check.places(x, 0, 0, 5, 10, 15, 22, 27, 32, 37, 45, 50, 55);
    }

    private static void roundedDown() {
        check.sentence("rounded down towards less");
        // D -1 by spaces of 3 3 3: -1/3, -2/3 and -1.
        Counted x = check.made(28);
        check.sets(x, "=3a~a~a~a", "a a a a");
        check.told(x, 0, 1, 4, 29, -1, 3, 4);
        check.places(x, 0, 0, 5, 7, 12, 15, 20, 23);
        // D -2: -2/3, -4/3 and -2.
        check.parameter(x, 0, 27);
        check.sets(x, "=3a~a~a~a", "a a a a");
        check.places(x, 0, 0, 5, 7, 12, 14, 19, 22);
        // D 1 and 2 by a stretch of 2 2 2.
        check.parameter(x, 0, 30);
        check.sets(x, "=3a~a~a~a bbbbbb", "a a a a", "bbbbbb");
        check.told(x, 0, 1, 0, 29, 1, 0, 4);
        check.places(x, 0, 0, 5, 8, 13, 16, 21, 25);
        check.parameter(x, 0, 31);
        check.sets(x, "=3a~a~a~a bbbbbb", "a a a a", "bbbbbb");
        check.places(x, 0, 0, 5, 8, 13, 17, 22, 26);
    }

    private static void byStretchOrShrink() {
        check.sentence("where s is the STRETCH (D above 0) or SHRINK (D below 0) of those before it and S that of the line");
        // A space of 9 stretches by 5 and shrinks by 3, one of 1 stretches by 1 and does not shrink.
        Counted x = check.made(26);
        check.sets(x, "=9a~a=1~a ccccc", "a a a", "ccccc");
        check.told(x, 0, 1, 0, 25, 1, 0, 3);
        check.places(x, 0, 0, 5, 14, 19, 21);
        check.parameter(x, 0, 24);
        check.sets(x, "=9a~a=1~a", "a a a");
        check.told(x, 0, 1, 4, 25, -1, 3, 3);
        check.places(x, 0, 0, 5, 13, 18, 19);
        // Nothing shrinks here, but it stretches.
        check.parameter(x, 0, 13);
        check.sets(x, "=2a~a cc", "a a", "cc");
        check.told(x, 0, 1, 0, 12, 1, 100, 2);
        check.places(x, 0, 0, 5, 8);
    }

    private static void looseLines() {
        check.sentence("unless D is above 0 at a break of kind 3 or 4");
        Counted x = check.made(400);
        for (int measure : new int[] {400, 20}) {
            check.parameter(x, 0, measure);
            check.sets(x, "=9a~a|a a", "a a", "a a");
            check.places(x, 0, 0, 5, 14);
            check.places(x, 1, 0, 5, 14);
        }
        // Below 0 it counts there, too.
        check.parameter(x, 0, 18);
        check.sets(x, "=9a~a|a a", "a a", "a a");
        check.places(x, 0, 0, 5, 13);
        check.places(x, 1, 0, 5, 13);
    }

    private static void exactLines() {
        check.sentence("(0 more if D is 0)");
        Counted x = check.made(14);
        check.sets(x, "a~a a~a|a a", "a a", "a a", "a a");
        for (int i = 0; i < 3; i++) {
            check.due("D", x.line(i, 3), 0);
            check.places(x, i, 0, 5, 9);
        }
        // No space at all: nothing to divide by.
        check.parameter(x, 0, 10);
        check.sets(x, "aa aa", "aa", "aa");
        check.places(x, 0, 0, 5);
        check.places(x, 1, 0, 5);
    }

    private static Counted twoLines() {
        Counted x = check.made(40);
        check.pattern(x, "b1c");
        check.width(x, '-', 3);
        check.sets(x, "=9aa aabbccdd", "aa aabb-", "ccdd");
        return x;
    }

    private static void hyphen() {
        check.sentence("Where character k of line i begins: the - behind a line, too");
        Counted x = twoLines();
        check.places(x, 0, 0, 5, 10, 17, 22, 27, 32, 37);
        check.places(x, 1, 0, 5, 10, 15);
        check.parameter(x, 0, 43);
        check.sets(x, "=9aa aabbccdd", "aa aabb-", "ccdd");
        check.places(x, 0, 0, 5, 10, 20, 25, 30, 35, 40);
    }

    private static void noSuchCharacter() {
        check.sentence("No such ... character: REFUSED");
        Counted x = twoLines();
        int[] lengths = {8, 4};
        for (int i = 0; i < 2; i++) {
            check.that("the last one", x.place(i, lengths[i] - 1) > 0);
            for (int k : new int[] {lengths[i], lengths[i] + 1, 120, 121, -1, -2}) {
                check.due("place(" + i + ", " + k + ")", x.place(i, k), REFUSED);
            }
            for (int far : Checker.FAR) {
                check.due("place(" + i + ", " + far + ")", x.place(i, far), REFUSED);
            }
        }
    }

    private static void noSuchLine() {
        check.sentence("No such line ...: REFUSED");
        Counted x = twoLines();
        for (int i : new int[] {-1, 2, 3, 24, Integer.MIN_VALUE, Integer.MAX_VALUE}) {
            for (int k : new int[] {-1, 0, 1, 99}) {
                check.due("place(" + i + ", " + k + ")", x.place(i, k), REFUSED);
            }
        }
        check.sets(x, "a", "a");
        check.due("a line of the setting before", x.place(1, 0), REFUSED);
        check.due("a character of the setting before", x.place(0, 1), REFUSED);
        check.due("place(0, 0) without a setting", check.fresh().place(0, 0), REFUSED);
    }

    private static void asItWasWhenMade() {
        check.sentence("What is told of a SETTING goes by the WIDTHS and PARAMETERS as they were when it was made");
        Counted x = twoLines();
        for (char c : "abcd-".toCharArray()) {
            check.width(x, c, 20);
        }
        for (int measure : new int[] {400, 10, 42, 41}) {
            check.parameter(x, 0, measure);
            check.places(x, 0, 0, 5, 10, 17, 22, 27, 32, 37);
        }
    }
}
