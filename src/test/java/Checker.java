import java.util.ArrayList;
import java.util.List;

/** Counts the answers that are not the ones due, and types whole texts. */
final class Checker {
    /** Numbers far out of every range, some of which would fall into one as a byte or a char. */
    static final int[] FAR = {Integer.MIN_VALUE, Integer.MIN_VALUE + 1, -65536, -256, 256, 65536,
        Integer.MAX_VALUE - 1, Integer.MAX_VALUE};
    /** What seen tells of an object that has nothing. */
    static final String NOTHING_SEEN = "cost 0 counts 0 0 0 0 0 0 0";

    private final String name;
    private String sentence = "";
    private int sentences = 0;
    private int checked = 0;
    private int wrong = 0;
    private final List<Counted> made = new ArrayList<>();

    Checker(String name) {
        this.name = name;
    }

    /** A new object, which must not be called more often than the document promises answers for. */
    Counted fresh() {
        Counted x = new Counted();
        made.add(x);
        return x;
    }

    /** The document's words that the checks from here on are for. */
    void sentence(String words) {
        sentence = " [" + words + "]";
        sentences++;
    }

    void due(String call, long got, long want) {
        checked++;
        if (got != want) {
            wrong++;
            System.out.println(name + ": " + call + " answered " + got + ", due is " + want + sentence);
        }
    }

    void that(String claim, boolean holds) {
        due(claim, holds ? 1 : 0, 1);
    }

    /** A new object with these values for its first parameters. */
    Counted made(int... values) {
        Counted x = fresh();
        for (int i = 0; i < values.length; i++) {
            parameter(x, i, values[i]);
        }
        return x;
    }

    void parameter(Counted x, int i, int v) {
        due("parameter(" + i + ", " + v + ")", x.parameter(i, v), ParagraphSetter.DONE);
    }

    void width(Counted x, char c, int w) {
        due("width('" + c + "', " + w + ")", x.width(c, w), ParagraphSetter.DONE);
    }

    /** Types a text on the line, each character of which must be taken. */
    void type(Counted x, String text) {
        int before = x.count(6);
        for (int k = 0; k < text.length(); k++) {
            due("type '" + text.charAt(k) + "' of \"" + text + "\"", x.type(text.charAt(k)), before + k + 1);
        }
    }

    void define(Counted x, char macro, String body) {
        type(x, body);
        due("define " + macro + " as \"" + body + "\"", x.define(macro - 'A'), ParagraphSetter.DONE);
    }

    void pattern(Counted x, String text) {
        int before = x.count(5);
        type(x, text);
        due("pattern \"" + text + "\"", x.pattern(), before + 1);
    }

    void paragraph(Counted x, String text, int want) {
        type(x, text);
        due("paragraph \"" + text + "\"", x.paragraph(), want);
        due("length of the line behind paragraph \"" + text + "\"", x.count(6), 0);
    }

    /** The characters of a line, up to the 0 behind its end. */
    static String shown(Counted x, int i) {
        StringBuilder seen = new StringBuilder();
        int c = x.character(i, 0);
        for (int k = 1; c > 0 && k < 200; k++) {
            seen.append((char) c);
            c = x.character(i, k);
        }
        return seen.toString();
    }

    /** Sets a text in these lines. */
    void sets(Counted x, String text, String... want) {
        paragraph(x, text, want.length);
        lines(x, want);
    }

    void lines(Counted x, String... want) {
        due("lines", x.count(0), want.length);
        for (int i = 0; i < want.length; i++) {
            String got = shown(x, i);
            that("line " + i + " is \"" + got + "\", due is \"" + want[i] + "\"", got.equals(want[i]));
        }
    }

    /** Break, kind, natural, difference, badness and letters of a line. */
    void told(Counted x, int i, int... want) {
        for (int what = 0; what < want.length; what++) {
            due("line(" + i + ", " + what + ")", x.line(i, what), want[what]);
        }
    }

    void places(Counted x, int i, int... want) {
        for (int k = 0; k < want.length; k++) {
            due("place(" + i + ", " + k + ")", x.place(i, k), want[k]);
        }
        due("place(" + i + ", " + want.length + ")", x.place(i, want.length), ParagraphSetter.REFUSED);
    }

    /** All that is told of an object, in one text. */
    static String seen(Counted x) {
        StringBuilder all = new StringBuilder("cost " + x.cost() + " counts");
        for (int what = 0; what <= 6; what++) {
            all.append(' ').append(x.count(what));
        }
        int lines = x.count(0);
        for (int i = 0; i < lines; i++) {
            String shown = shown(x, i);
            all.append("; \"").append(shown).append('"');
            for (int what = 0; what <= 5; what++) {
                all.append(' ').append(x.line(i, what));
            }
            all.append(" at");
            for (int k = 0; k < shown.length(); k++) {
                all.append(' ').append(x.place(i, k));
            }
        }
        return all.toString();
    }

    void same(String call, String got, String want) {
        that(call + " leaves " + got + ", due is " + want, got.equals(want));
    }

    void finish() {
        sentence = "";
        for (Counted x : made) {
            that("a test calls an object " + x.calls() + " times", x.calls() <= Counted.PROMISED);
        }
        System.out.println(name + ": " + (sentences > 0 ? sentences + " sentences, " : "")
            + checked + " checked, " + wrong + " wrong");
        if (wrong != 0 || checked == 0) {
            System.exit(1);
        }
    }
}
