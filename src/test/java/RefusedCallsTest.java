/** "A refused call (an answer below 0) changes nothing but what is said", for each call that can be refused. */
public final class RefusedCallsTest {
    private static final int DONE = ParagraphSetter.DONE;
    private static final int REFUSED = ParagraphSetter.REFUSED;
    private static final int FULL = ParagraphSetter.FULL;
    private static final int SYNTAX = ParagraphSetter.SYNTAX;
    private static final int BIG = ParagraphSetter.BIG;
    private static final int OVERFULL = ParagraphSetter.OVERFULL;

    private static final Checker check = new Checker("RefusedCallsTest");

    private interface Call {
        int of(Counted x);
    }

    public static void main(String[] args) {
        refusedCallsOfTheLine();
        refusedCallsWithNumbers();
        refusedParagraphs();
        check.finish();
    }

    /** An object with something of everything, whose numbers are all at an edge that probe looks at. */
    private static Counted full() {
        Counted x = check.made(25, 100, 7, 11, 13);
        check.width(x, 'h', 4);
        check.pattern(x, "b1c");
        check.pattern(x, "d1e");
        check.define(x, 'A', "b#c");
        check.define(x, 'D', "");
        check.sets(x, "Aa-h", "bac-h");
        return x;
    }

    /** All that can be seen of an object, and then what its line, macros, patterns and numbers do. */
    private static String probe(Counted x) {
        StringBuilder all = new StringBuilder(Checker.seen(x));
        all.append(" line: ").append(x.paragraph()).append(' ').append(Checker.shown(x, 0));
        for (String text : new String[] {"aabbccddeeff", "ah bb cc", "hh bb cc", "Aa", "B", "C", "Da", "-"}) {
            for (int k = 0; k < text.length(); k++) {
                x.type(text.charAt(k));
            }
            all.append(" ").append(text).append(": ").append(x.paragraph()).append(' ').append(x.cost())
                .append(' ').append(x.line(0, 2)).append(' ').append(x.count(3));
        }
        return all.toString();
    }

    private static void changesNothing(String name, int answer, Call before, Call call) {
        Counted with = full();
        before.of(with);
        check.due(name, call.of(with), answer);
        Counted without = full();
        before.of(without);
        check.same(name, probe(with), probe(without));
    }

    private static int typeAll(Counted x, String text) {
        check.type(x, text);
        return DONE;
    }

    private static void refusedCallsOfTheLine() {
        check.sentence("A refused call (an answer below 0) changes nothing but what is said: the line's");
        Call word = x -> typeAll(x, "hah");
        Call sixty = x -> typeAll(x, "h".repeat(60));
        Call long25 = x -> typeAll(x, "{" + "h=1".repeat(7) + "h}a");
        Call twenty = x -> {
            for (int k = 2; k < 20; k++) {
                check.pattern(x, "z1z");
            }
            return typeAll(x, "d1d");
        };
        changesNothing("type('E')", REFUSED, word, x -> x.type('E'));
        changesNothing("type(256 + 'a')", REFUSED, word, x -> x.type(256 + 'a'));
        changesNothing("type('a') on a full line", FULL, sixty, x -> x.type('a'));
        changesNothing("type('E') on a full line", REFUSED, sixty, x -> x.type('E'));
        changesNothing("define(-1)", REFUSED, word, x -> x.define(-1));
        changesNothing("define(4)", REFUSED, word, x -> x.define(4));
        changesNothing("define(0) with 25", FULL, long25, x -> x.define(0));
        changesNothing("define(1) with 25", FULL, long25, x -> x.define(1));
        changesNothing("define(4) with 25", REFUSED, long25, x -> x.define(4));
        changesNothing("pattern() of an empty line", SYNTAX, x -> DONE, x -> x.pattern());
        changesNothing("pattern() of a faulty line", SYNTAX, x -> typeAll(x, "a1b.c"), x -> x.pattern());
        changesNothing("pattern() of six signs", SYNTAX, x -> typeAll(x, "a1b1c1d1e1f"), x -> x.pattern());
        changesNothing("pattern() of two digits", SYNTAX, x -> typeAll(x, "a1b11"), x -> x.pattern());
        changesNothing("the 21st pattern()", FULL, twenty, x -> x.pattern());
    }

    private static void refusedCallsWithNumbers() {
        check.sentence("A refused call (an answer below 0) changes nothing but what is said: numbers out of range");
        Call word = x -> typeAll(x, "hah");
        int[] most = {400, 10000, 100, 200, 10000};
        int[] least = {10, 0, 0, 0, 0};
        for (int i = 0; i < most.length; i++) {
            int p = i;
            changesNothing("parameter(" + i + ") too large", REFUSED, word, x -> x.parameter(p, most[p] + 1));
            changesNothing("parameter(" + i + ") too small", REFUSED, word, x -> x.parameter(p, least[p] - 1));
        }
        changesNothing("parameter(-1, 50)", REFUSED, word, x -> x.parameter(-1, 50));
        changesNothing("parameter(5, 50)", REFUSED, word, x -> x.parameter(5, 50));
        for (char c : "abch-".toCharArray()) {
            changesNothing("width(" + c + ", 0)", REFUSED, word, x -> x.width(c, 0));
            changesNothing("width(" + c + ", 21)", REFUSED, word, x -> x.width(c, 21));
            changesNothing("width(" + c + " + 256, 9)", REFUSED, word, x -> x.width(c + 256, 9));
        }
        changesNothing("width('`', 9)", REFUSED, word, x -> x.width('`', 9));
        changesNothing("width('{', 9)", REFUSED, word, x -> x.width('{', 9));
        changesNothing("width('~', 9)", REFUSED, word, x -> x.width('~', 9));
        changesNothing("line(1, 0)", REFUSED, word, x -> x.line(1, 0));
        changesNothing("line(0, 6)", REFUSED, word, x -> x.line(0, 6));
        changesNothing("character(0, -1)", REFUSED, word, x -> x.character(0, -1));
        changesNothing("place(0, 5)", REFUSED, word, x -> x.place(0, 5));
        changesNothing("count(7)", REFUSED, word, x -> x.count(7));
    }

    private static void refusedParagraphs() {
        check.sentence("A refused call (an answer below 0) changes nothing but what is said: paragraph");
        String[] texts = {".", "{=9a", "{".repeat(9), "=9}", "A", "B", "a-".repeat(24) + "a", "aaaaaa", "~", "bbcc|~"};
        int[] answers = {SYNTAX, SYNTAX, BIG, SYNTAX, SYNTAX, SYNTAX, BIG, OVERFULL, OVERFULL, OVERFULL};
        for (int k = 0; k < texts.length; k++) {
            Counted with = full();
            check.paragraph(with, texts[k], answers[k]);
            check.same("paragraph \"" + texts[k] + "\"", probe(with), probe(full()));
        }
    }
}
