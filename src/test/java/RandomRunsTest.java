import java.util.Random;

/** Runs of calls drawn from fixed seeds, on the program and on the reference beside it. */
public final class RandomRunsTest {
    private static final int RUNS = 6000;
    private static final int CALLS = 512;

    private final Checker check;
    private final int run;
    private final Random random;
    private final ParagraphSetter x = new ParagraphSetter();
    private final Reference y = new Reference();
    private int calls = 0;

    private static final int[] answers = new int[6];
    private static int empty = 0;
    private static int manyLines = 0;
    private static int hyphens = 0;
    private static int doubles = 0;

    private RandomRunsTest(Checker check, int run) {
        this.check = check;
        this.run = run;
        this.random = new Random(run);
    }

    public static void main(String[] args) {
        Checker check = new Checker("RandomRunsTest");
        for (int run = 0; run < RUNS; run++) {
            new RandomRunsTest(check, run).play();
        }
        // A draw that never gets somewhere would test nothing there.
        System.out.println("settings: " + answers[0] + ", of them empty " + empty + ", of three lines or more "
            + manyLines + ", lines with a hyphen " + hyphens + ", two of them together " + doubles
            + "; SYNTAX " + answers[3] + ", BIG " + answers[4] + ", OVERFULL " + answers[5]);
        check.that("every answer of paragraph was drawn often", answers[0] > 500 && answers[3] > 500
            && answers[4] > 100 && answers[5] > 500 && empty > 50 && manyLines > 500 && hyphens > 200 && doubles > 20);
        check.finish();
    }

    private void play() {
        drawParameters();
        drawWidths();
        int macros = random.nextInt(5);
        for (int k = 0; k < macros; k++) {
            type(drawBody());
            same("define", random.nextInt(8) == 0 ? pick(-1, 4) : k % 4, 0);
            if (random.nextInt(3) > 0) {
                same("wipe", 0, 0);
            }
        }
        int patterns = random.nextInt(4) == 0 ? 22 : random.nextInt(8);
        for (int k = 0; k < patterns; k++) {
            type(drawPattern());
            same("pattern", 0, 0);
            if (random.nextInt(3) > 0) {
                same("wipe", 0, 0);
            }
        }
        while (calls < CALLS) {
            setParagraph();
            tellAll();
        }
    }

    private void setParagraph() {
        if (random.nextInt(8) > 0) {
            same("wipe", 0, 0);
        }
        int length = random.nextInt(8) == 0 ? random.nextInt(64) : 15 + random.nextInt(46);
        boolean rich = random.nextInt(3) == 0;
        if (rich || random.nextBoolean()) {
            type(random.nextBoolean() ? "=9" : "=6");
        }
        type(drawText(length, rich));
        if (calls >= CALLS) {
            return;
        }
        int answer = (int) same("paragraph", 0, 0);
        answers[Math.max(0, -answer)]++;
        empty += answer == 0 ? 1 : 0;
        manyLines += answer > 2 ? 1 : 0;
        for (int i = 0; i < answer; i++) {
            boolean hyphen = y.line(i, 1) == 2;
            hyphens += hyphen ? 1 : 0;
            doubles += hyphen && i > 0 && y.line(i - 1, 1) == 2 ? 1 : 0;
        }
        if (random.nextInt(3) == 0) {
            drawParameters();
            drawWidths();
        }
    }

    private void tellAll() {
        same("cost", 0, 0);
        for (int what = -1; what < 8; what++) {
            same("count", what, 0);
        }
        int lines = y.count(0);
        for (int k = 0; k < 20; k++) {
            int i = random.nextInt(lines + 1) - (random.nextInt(20) == 0 ? 1 : 0);
            same("line", i, random.nextInt(8) - 1);
            same("character", i, random.nextInt(22) - 1);
            same("place", i, random.nextInt(22) - 1);
        }
    }

    private void drawParameters() {
        same("parameter", 0, pick(60, 10, 15, 20, 20, 25, 25, 30, 30, 40, 50, 100, 400, 9, 401));
        same("parameter", 1, pick(200, 0, 12, 1000, 5000, 10000, 10000, 10000, 10000, 10001, -1));
        if (random.nextBoolean()) {
            same("parameter", 2, pick(0, 1, 10, 100, 101));
            same("parameter", 3, pick(0, 0, 1, 50, 200, 201));
            same("parameter", 4, pick(0, 100, 2500, 10000, 10001));
            same("parameter", pick(-1, 5), 10);
        }
    }

    private void drawWidths() {
        // Narrow letters beside wide spaces leave more than one way to break.
        if (random.nextInt(4) > 0) {
            for (int c = 'a'; c <= 'c'; c++) {
                same("width", c, 1 + random.nextInt(3));
            }
        }
        for (int k = random.nextInt(4); k > 0; k--) {
            same("width", pick('a', 'b', 'c', '-', 'A', '~', 'z', '`', '{'), pick(1, 2, 3, 5, 5, 8, 20, 21, 0));
        }
    }

    private int pick(int... from) {
        return from[random.nextInt(from.length)];
    }

    private String drawPattern() {
        StringBuilder text = new StringBuilder();
        if (random.nextInt(5) == 0) {
            text.append('.');
        }
        int signs = pick(1, 1, 2, 2, 2, 3, 4, 5, 6);
        for (int k = 0; k < signs; k++) {
            if (random.nextInt(3) == 0) {
                text.append((char) ('0' + random.nextInt(10)));
            }
            text.append((char) pick('a', 'b', 'c'));
        }
        if (random.nextInt(3) == 0) {
            text.append((char) ('0' + random.nextInt(10)));
        }
        if (random.nextInt(6) == 0) {
            text.append('.');
        }
        if (random.nextInt(12) == 0) {
            text.insert(random.nextInt(text.length() + 1), (char) pick('.', '1', '-', 'A', '~'));
        }
        return text.toString();
    }

    private String drawBody() {
        StringBuilder body = new StringBuilder(drawText(random.nextInt(26), random.nextInt(3) == 0));
        for (int k = random.nextInt(3); k > 0 && body.length() > 0; k--) {
            body.setCharAt(random.nextInt(body.length()), '#');
        }
        return body.toString();
    }

    private String drawText(int length, boolean rich) {
        StringBuilder text = new StringBuilder();
        while (text.length() < length) {
            int kind = random.nextInt(rich ? 24 : 16);
            if (kind < 8) {
                for (int k = 1 + random.nextInt(6); k > 0; k--) {
                    text.append((char) pick('a', 'b', 'c', 'a', 'b', 'c', 'a', 'b', 'c', 'z'));
                }
            } else if (kind < 13) {
                text.append(' ');
            } else if (kind < 16) {
                text.append((char) pick('-', '~', ' ', '-', '~', '|', '-', '~', ' ', ' '));
            } else {
                drawControl(text, kind);
            }
        }
        text.setLength(length);
        return text.toString();
    }

    private void drawControl(StringBuilder text, int kind) {
        if (kind < 19) {
            text.append((char) pick('A', 'A', 'B', 'C', 'D'));
            if (random.nextBoolean()) {
                text.append("{").append(drawText(random.nextInt(5), false)).append('}');
            }
        } else if (kind < 21) {
            text.append('=').append((char) ('0' + (random.nextInt(25) == 0 ? 0 : 1 + random.nextInt(9))));
        } else if (kind < 23) {
            text.append('{').append(drawText(random.nextInt(6), random.nextInt(3) == 0)).append('}');
        } else if (random.nextInt(4) == 0) {
            text.append((char) pick('#', '{', '}', '.', '7'));
        }
    }

    private void type(String text) {
        for (int k = 0; k < text.length(); k++) {
            same("type", text.charAt(k), 0);
        }
        if (random.nextInt(10) == 0) {
            same("type", pick('E', '@', '_', '/', ':', '`', 127, 0, -1, 256 + 'a', 65536 + 'a', '\n', ','), 0);
        }
    }

    private long same(String call, int p, int q) {
        if (calls >= CALLS) {
            return 0;
        }
        calls++;
        long got = 0;
        long want = 0;
        switch (call) {
            case "type" -> { got = x.type(p); want = y.type(p); }
            case "wipe" -> { got = x.wipe(); want = y.wipe(); }
            case "width" -> { got = x.width(p, q); want = y.width(p, q); }
            case "parameter" -> { got = x.parameter(p, q); want = y.parameter(p, q); }
            case "define" -> { got = x.define(p); want = y.define(p); }
            case "pattern" -> { got = x.pattern(); want = y.pattern(); }
            case "paragraph" -> { got = x.paragraph(); want = y.paragraph(); }
            case "cost" -> { got = x.cost(); want = y.cost(); }
            case "line" -> { got = x.line(p, q); want = y.line(p, q); }
            case "character" -> { got = x.character(p, q); want = y.character(p, q); }
            case "place" -> { got = x.place(p, q); want = y.place(p, q); }
            case "count" -> { got = x.count(p); want = y.count(p); }
            default -> check.that("a call by the name of " + call, false);
        }
        check.due("run " + run + ", call " + calls + ": " + call + "(" + p + ", " + q + ")", got, want);
        return want;
    }
}
