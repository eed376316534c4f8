/** Promise 5: parameter. */
public final class Promise05ParameterTest {
    private static final int REFUSED = ParagraphSetter.REFUSED;
    private static final int OVERFULL = ParagraphSetter.OVERFULL;
    private static final int[] LEAST = {10, 0, 0, 0, 0};
    private static final int[] MOST = {400, 10000, 100, 200, 10000};

    private static final Checker check = new Checker("Promise05ParameterTest");

    public static void main(String[] args) {
        numbers();
        ranges();
        allSet();
        measure();
        tolerance();
        line();
        hyphen();
        doubleHyphen();
        check.finish();
    }

    private static void numbers() {
        check.sentence("Sets PARAMETER i (0 .. 4)");
        Counted x = check.fresh();
        check.due("parameter(-1, 10)", x.parameter(-1, 10), REFUSED);
        for (int i = 0; i <= 4; i++) {
            check.parameter(x, i, 10);
        }
        check.due("parameter(5, 10)", x.parameter(5, 10), REFUSED);
        for (int far : Checker.FAR) {
            check.due("parameter(" + far + ", 10)", x.parameter(far, 10), REFUSED);
        }
    }

    private static void ranges() {
        check.sentence("to v, in its range, else REFUSED: DONE");
        for (int i = 0; i <= 4; i++) {
            Counted x = check.fresh();
            check.due("parameter " + i + ", less than the least", x.parameter(i, LEAST[i] - 1), REFUSED);
            check.parameter(x, i, LEAST[i]);
            check.parameter(x, i, LEAST[i] + 1);
            check.parameter(x, i, MOST[i] - 1);
            check.parameter(x, i, MOST[i]);
            check.due("parameter " + i + ", more than the most", x.parameter(i, MOST[i] + 1), REFUSED);
            check.due("parameter " + i + ", -1", x.parameter(i, -1), REFUSED);
            for (int far : new int[] {Integer.MIN_VALUE, -65536, 65536, 65546, Integer.MAX_VALUE}) {
                check.due("parameter(" + i + ", " + far + ")", x.parameter(i, far), REFUSED);
            }
        }
    }

    private static Counted withTwoPoints(int... values) {
        Counted x = check.made(values);
        check.pattern(x, "b1c");
        check.pattern(x, "d1e");
        return x;
    }

    private static void costs(Counted x, long want) {
        check.sets(x, "aabbccddeeff", "aabb-", "ccdd-", "eeff");
        check.due("cost()", x.cost(), want);
    }

    private static void allSet() {
        check.sentence("Sets PARAMETER i to v - each its own");
        costs(withTwoPoints(25, 0, 3, 4, 5), (9 + 16) + (9 + 16 + 5) + 9);
    }

    private static void measures(Counted x, int want) {
        check.sets(x, "a", "a");
        check.due("MEASURE less 5", x.line(0, 3), want - 5);
    }

    private static void measure() {
        check.sentence("Sets PARAMETER 0, the MEASURE");
        Counted x = check.fresh();
        for (int v : new int[] {10, 11, 399, 400}) {
            check.parameter(x, 0, v);
            measures(x, v);
            check.due("parameter(0, 9)", x.parameter(0, 9), REFUSED);
            check.due("parameter(0, 401)", x.parameter(0, 401), REFUSED);
            measures(x, v);
        }
    }

    private static void tolerance() {
        check.sentence("Sets PARAMETER 1, the TOLERANCE");
        // D of 2 by a stretch of 2 is a badness of 100.
        Counted x = check.made(16);
        check.parameter(x, 1, 99);
        check.paragraph(x, "a~a ccc", OVERFULL);
        check.due("parameter(1, 10001)", x.parameter(1, 10001), REFUSED);
        check.paragraph(x, "a~a ccc", OVERFULL);
        check.parameter(x, 1, 100);
        check.sets(x, "a~a ccc", "a a", "ccc");
        check.due("parameter(1, -1)", x.parameter(1, -1), REFUSED);
        check.sets(x, "a~a ccc", "a a", "ccc");
        check.parameter(x, 1, 0);
        check.paragraph(x, "a~a ccc", OVERFULL);
        check.parameter(x, 1, 10000);
        check.sets(x, "a~a ccc", "a a", "ccc");
    }

    private static void line() {
        check.sentence("Sets PARAMETER 2, LINE");
        Counted x = withTwoPoints(25, 200, 10, 0, 0);
        for (int v : new int[] {0, 1, 99, 100}) {
            check.parameter(x, 2, v);
            costs(x, 3 * v * v);
            check.due("parameter(2, -1)", x.parameter(2, -1), REFUSED);
            check.due("parameter(2, 101)", x.parameter(2, 101), REFUSED);
            costs(x, 3 * v * v);
        }
    }

    private static void hyphen() {
        check.sentence("Sets PARAMETER 3, HYPHEN");
        Counted x = withTwoPoints(25, 200, 0, 50, 0);
        for (int v : new int[] {0, 1, 199, 200}) {
            check.parameter(x, 3, v);
            costs(x, 2 * v * v);
            check.due("parameter(3, -1)", x.parameter(3, -1), REFUSED);
            check.due("parameter(3, 201)", x.parameter(3, 201), REFUSED);
            costs(x, 2 * v * v);
        }
    }

    private static void doubleHyphen() {
        check.sentence("Sets PARAMETER 4, DOUBLE");
        Counted x = withTwoPoints(25, 200, 0, 0, 0);
        for (int v : new int[] {0, 1, 9999, 10000}) {
            check.parameter(x, 4, v);
            costs(x, v);
            check.due("parameter(4, -1)", x.parameter(4, -1), REFUSED);
            check.due("parameter(4, 10001)", x.parameter(4, 10001), REFUSED);
            costs(x, v);
        }
    }
}
