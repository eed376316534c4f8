/** The boundary cases of each call, promises 1 to 14, and what a refused call leaves as it was. */
public final class CallEdgesTest {
    private static final int DONE = ParagraphSetter.DONE;
    private static final int REFUSED = ParagraphSetter.REFUSED;
    private static final int FULL = ParagraphSetter.FULL;
    private static final int SYNTAX = ParagraphSetter.SYNTAX;
    private static final int BIG = ParagraphSetter.BIG;
    private static final int OVERFULL = ParagraphSetter.OVERFULL;
    private static final int[] FAR = {Integer.MIN_VALUE, Integer.MIN_VALUE + 1, -65536, -256, 256, 65536,
        Integer.MAX_VALUE - 1, Integer.MAX_VALUE};
    private static final String NOTHING_SEEN = "cost 0 counts 0 0 0 0 0 0 0";

    private static final Checker check = new Checker("CallEdgesTest");

    private interface Call {
        int of(Counted x);
    }

    public static void main(String[] args) {
        newObject();
        typeOnAFullLine();
        typeAnswersTheLength();
        wipeEmptyAndFull();
        widthOfWhat();
        widthOfHowMuch();
        parameterNumber();
        parameterValue();
        macroNumber();
        bodyOfTwentyFour();
        bodyReplaced();
        oneToFiveSigns();
        oneDigitAtAPlace();
        pointElsewhere();
        otherSigns();
        twentyPatterns();
        lineEmptyInEveryCase();
        whicheverComesFirst();
        settingStays();
        settingWithoutLines();
        costWithout();
        costBeyondAnInt();
        noSuchLine();
        anotherWhat();
        lettersOfALine();
        behindTheEnd();
        characterOfALine();
        noSuchCharacter();
        placesRoundedDown();
        placesByStretchOrShrink();
        placesOfLooseLines();
        placesOfExactLines();
        counts();
        countsWithoutItems();
        orderOfDefine();
        refusedCallsOfTheLine();
        refusedCallsWithNumbers();
        refusedParagraphs();
        lastPromisedCall();
        check.finish();
    }

    private static void newObject() {
        check.sentence("No macros and patterns, an empty line, no setting");
        Counted x = check.fresh();
        check.same("making it", Checker.seen(x), NOTHING_SEEN);
        check.due("line(0, 0)", x.line(0, 0), REFUSED);
        check.due("character(0, 0)", x.character(0, 0), REFUSED);
        check.due("place(0, 0)", x.place(0, 0), REFUSED);
        for (char macro = 'A'; macro <= 'D'; macro++) {
            check.paragraph(check.fresh(), "" + macro, SYNTAX);
        }
        check.sets(x, "aaaaaaaaaaaa", "aaaaaaaaaaaa");
        check.due("points without patterns", x.count(3), 0);
        // Two objects have nothing in common.
        Counted y = check.fresh();
        check.define(x, 'A', "a");
        check.pattern(x, "1a");
        check.width(x, 'a', 9);
        check.parameter(x, 0, 99);
        check.type(x, "b");
        check.same("another object", Checker.seen(y), NOTHING_SEEN);
        check.paragraph(y, "A", SYNTAX);
        check.sets(y, "aaaa", "aaaa");
        check.told(y, 0, 1, 4, 20, 40, 0, 4);
    }

    private static void typeOnAFullLine() {
        check.sentence("Not one of the line's: REFUSED; else, it has 60: FULL");
        Counted x = check.fresh();
        check.type(x, "a".repeat(59));
        check.due("a wrong one before the 60th", x.type('E'), REFUSED);
        check.due("the 60th", x.type('a'), 60);
        check.due("the 61st", x.type('a'), FULL);
        check.due("a wrong one on a full line", x.type('E'), REFUSED);
        for (int far : FAR) {
            check.due("type(" + far + ") on a full line", x.type(far), REFUSED);
        }
        check.due("the 61st again", x.type('.'), FULL);
        check.due("count(6)", x.count(6), 60);
    }

    private static void typeAnswersTheLength() {
        check.sentence("Answers its length");
        Counted x = check.fresh();
        check.due("the first", x.type('a'), 1);
        check.due("the second", x.type(' '), 2);
        check.due("a wrong one", x.type('_'), REFUSED);
        check.due("the third", x.type('}'), 3);
        x.wipe();
        check.due("the first behind wipe", x.type('a'), 1);
        x.paragraph();
        check.due("the first behind paragraph", x.type('a'), 1);
        x.pattern();
        check.due("the first behind pattern", x.type('a'), 1);
        x.define(0);
        check.due("the first behind define", x.type('a'), 1);
    }

    private static void wipeEmptyAndFull() {
        check.sentence("Empties the line: DONE");
        Counted x = check.made(400);
        check.due("wipe() of an empty line", x.wipe(), DONE);
        check.type(x, "b".repeat(60));
        check.due("wipe() of a full line", x.wipe(), DONE);
        check.due("count(6)", x.count(6), 0);
        check.due("pattern() of what is left", x.pattern(), SYNTAX);
        check.type(x, "a".repeat(60));
        check.due("the 61st", x.type('a'), FULL);
        check.due("wipe()", x.wipe(), DONE);
        check.sets(x, "c", "c");
        check.define(x, 'A', "d");
        check.pattern(x, "1a");
        String before = Checker.seen(x);
        check.type(x, "zz");
        check.due("wipe()", x.wipe(), DONE);
        check.same("wipe()", Checker.seen(x), before);
        check.sets(x, "A", "d");
    }

    private static void widthOfWhat() {
        check.sentence("Sets the WIDTH ... of the letter or - with the code c: DONE; else REFUSED");
        Counted x = check.made(400);
        for (char c : "az-".toCharArray()) {
            check.width(x, c, 5);
        }
        for (char c : "`{AZD@ ~|}#=.09,/_".toCharArray()) {
            check.due("width of " + c, x.width(c, 7), REFUSED);
        }
        for (int far : FAR) {
            check.due("width(" + far + ", 7)", x.width(far, 7), REFUSED);
            check.due("width(" + (far + 'a') + ", 7)", x.width(far + 'a', 7), REFUSED);
            check.due("width(" + (far + '-') + ", 7)", x.width(far + '-', 7), REFUSED);
        }
        for (int c : new int[] {-1, 0, 25, 26, -'a', -'-'}) {
            check.due("width(" + c + ", 7)", x.width(c, 7), REFUSED);
        }
        String all = "abcdefghijklmnopqrstuvwxyz~-";
        check.paragraph(x, all, 1);
        check.due("NATURAL", x.line(0, 2), 27 * 5 + 4);
    }

    private static void widthOfHowMuch() {
        check.sentence("(w 1 .. 20)");
        for (char c : "az-".toCharArray()) {
            Counted x = check.made(400);
            int[] refused = {0, -1, 21, 22, 256 + 5, 65536 + 5, Integer.MIN_VALUE, Integer.MAX_VALUE};
            for (int w : refused) {
                check.due("width(" + c + ", " + w + ")", x.width(c, w), REFUSED);
                check.due("a wrong one, too", x.width('A', w), REFUSED);
            }
            check.paragraph(x, "" + c, 1);
            check.due("NATURAL", x.line(0, 2), 5);
            for (int w = 1; w <= 20; w++) {
                check.width(x, c, w);
                check.paragraph(x, "" + c, 1);
                check.due("NATURAL", x.line(0, 2), w);
            }
        }
    }

    private static void parameterNumber() {
        check.sentence("Sets PARAMETER i (0 .. 4)");
        Counted x = check.fresh();
        check.due("parameter(-1, 10)", x.parameter(-1, 10), REFUSED);
        for (int i = 0; i <= 4; i++) {
            check.parameter(x, i, 10);
        }
        check.due("parameter(5, 10)", x.parameter(5, 10), REFUSED);
        for (int far : FAR) {
            check.due("parameter(" + far + ", 10)", x.parameter(far, 10), REFUSED);
        }
    }

    private static void parameterValue() {
        check.sentence("to v, in its range, else REFUSED");
        int[] least = {10, 0, 0, 0, 0};
        int[] most = {400, 10000, 100, 200, 10000};
        for (int i = 0; i <= 4; i++) {
            Counted x = check.fresh();
            check.due("parameter " + i + ", less than the least", x.parameter(i, least[i] - 1), REFUSED);
            check.parameter(x, i, least[i]);
            check.parameter(x, i, least[i] + 1);
            check.parameter(x, i, most[i] - 1);
            check.parameter(x, i, most[i]);
            check.due("parameter " + i + ", more than the most", x.parameter(i, most[i] + 1), REFUSED);
            check.due("parameter " + i + ", -1", x.parameter(i, -1), REFUSED);
            for (int far : new int[] {Integer.MIN_VALUE, -65536, 65536, 65546, Integer.MAX_VALUE}) {
                check.due("parameter(" + i + ", " + far + ")", x.parameter(i, far), REFUSED);
            }
        }
    }

    private static void macroNumber() {
        check.sentence("macro m (0 .. 3 for A .. D, else REFUSED)");
        Counted x = check.made(400);
        for (int m = 0; m <= 3; m++) {
            check.type(x, "wxyz".substring(m, m + 1));
            check.due("define(" + m + ")", x.define(m), DONE);
        }
        check.sets(x, "ABCD", "wxyz");
        check.type(x, "v");
        for (int m : new int[] {-1, 4, 5, 'A', 'D'}) {
            check.due("define(" + m + ")", x.define(m), REFUSED);
        }
        for (int far : FAR) {
            check.due("define(" + far + ")", x.define(far), REFUSED);
        }
        check.due("the line stays", x.count(6), 1);
        check.due("paragraph()", x.paragraph(), 1);
        check.lines(x, "v");
        check.sets(x, "ABCD", "wxyz");
    }

    private static void bodyOfTwentyFour() {
        check.sentence("It has more than 24 characters: FULL (it stays)");
        Counted x = check.made(400);
        String most = "abcdefghijklmnopqrstuvwx";
        check.define(x, 'A', most);
        check.sets(x, "A", most);
        check.type(x, most + "y");
        check.due("define with 25", x.define(0), FULL);
        check.due("define with 25", x.define(1), FULL);
        check.due("the line stays", x.count(6), 25);
        check.due("it can be set", x.paragraph(), 1);
        check.lines(x, most + "y");
        check.sets(x, "A", most);
        check.paragraph(x, "B", SYNTAX);
        check.type(x, "a".repeat(60));
        check.due("define with 60", x.define(0), FULL);
        check.due("the line stays", x.count(6), 60);
    }

    private static void bodyReplaced() {
        check.sentence("The line becomes the body of macro m ..., whatever it had, and is empty afterwards");
        Counted x = check.made(400);
        check.define(x, 'A', "abcdefghijklmnopqrstuvwx");
        check.due("count(6)", x.count(6), 0);
        check.define(x, 'A', "ab");
        check.sets(x, "A", "ab");
        check.define(x, 'A', "");
        check.paragraph(x, "A", 0);
        check.due("macros called", x.count(4), 1);
        check.define(x, 'A', "#");
        check.paragraph(x, "A", SYNTAX);
        check.sets(x, "Ac", "c");
        // Faults of a body come up when it is called, not before.
        for (String body : new String[] {"}", "{", "=", "A", ".", "9", "#}"}) {
            check.define(x, 'B', body);
            check.due("count(6)", x.count(6), 0);
            check.paragraph(x, "Ba", body.equals("A") ? 1 : SYNTAX);
        }
    }

    private static void taken(String text) {
        Counted x = check.fresh();
        check.type(x, text);
        check.due("pattern() of \"" + text + "\"", x.pattern(), 1);
        check.due("the line behind it", x.count(6), 0);
        check.due("patterns", x.count(5), 1);
    }

    /** Refused as SYNTAX, with the line left and nothing learnt. */
    private static void faulty(String text) {
        Counted x = check.made(400);
        check.type(x, text);
        check.due("pattern() of \"" + text + "\"", x.pattern(), SYNTAX);
        check.due("the line stays", x.count(6), text.length());
        check.due("patterns", x.count(5), 0);
        check.due("define(0) of what stayed", x.define(0), DONE);
        // Nor do its levels show in the next one.
        check.pattern(x, "zzzzz");
        check.paragraph(x, "aaaaabcdef zzzzzzzzzz", 1);
        check.due("points", x.count(3), 0);
    }

    private static void oneToFiveSigns() {
        check.sentence("or doesn't have 1 .. 5 signs");
        for (String text : new String[] {"a", "z", ".", "1a", "a1", "abcde", ".abcd", "abcd.", ".abc.", "1a2b3c4d5e6"}) {
            taken(text);
        }
        for (String text : new String[] {"", "1", "0", "abcdef", ".abcde", "abcde.", ".abcd.", "1a2b3c4d5e6f7",
            "a".repeat(24), "a1".repeat(6)}) {
            faulty(text);
        }
        Counted x = check.fresh();
        check.type(x, "a".repeat(60));
        check.due("pattern() of 60 signs", x.pattern(), SYNTAX);
        check.due("the line stays", x.count(6), 60);
    }

    private static void oneDigitAtAPlace() {
        check.sentence("before, between or behind them digits, at most one at each place");
        for (String text : new String[] {"0a", "9a", "a0", "a9", "1a1", "a1b", "0a0b0c0d0e0", "9.9a9.9"}) {
            taken(text);
        }
        for (String text : new String[] {"11a", "a11", "a11b", "00a", "a00", "a10b", "1", "12", "123a", "abcde12", "1a2b3c4d5e67"}) {
            faulty(text);
        }
    }

    private static void pointElsewhere() {
        check.sentence("or a point elsewhere than at its beginning or end: SYNTAX");
        for (String text : new String[] {".", ".a", "a.", ".a.", "1.a", "a.1", ".1a", "a1.", "..", ".1."}) {
            taken(text);
        }
        for (String text : new String[] {"a.a", "...", "..a", "a..", "a1.1a", "ab.c", ".a.a", "a.b.", "1..1a", "..."}) {
            faulty(text);
        }
    }

    private static void otherSigns() {
        check.sentence("it isn't like that ...: SYNTAX");
        for (char c : "ABCD -~|{}#=".toCharArray()) {
            faulty("" + c);
            faulty("a" + c);
            faulty(c + "a");
            faulty("a1" + c + "2b");
        }
    }

    private static void twentyPatterns() {
        check.sentence("20 are there: FULL; ... in both cases the line stays. Answers how many there are");
        Counted x = check.made(400);
        for (int k = 1; k <= 20; k++) {
            check.due("type", x.type('a'), 1);
            check.due("pattern, the " + k + "th", x.pattern(), k);
            check.due("patterns", x.count(5), k);
        }
        check.due("pattern() with an empty line", x.pattern(), FULL);
        check.type(x, "1b");
        check.due("the 21st", x.pattern(), FULL);
        check.due("the line stays", x.count(6), 2);
        check.type(x, "#");
        check.due("a faulty one", x.pattern(), FULL);
        check.due("the line stays", x.count(6), 3);
        check.due("patterns", x.count(5), 20);
        x.wipe();
        check.sets(x, "bbbb", "bbbb");
        check.due("points", x.count(3), 0);
        Counted y = check.made(400);
        check.type(y, "a.a");
        check.due("a faulty one", y.pattern(), SYNTAX);
        y.wipe();
        check.pattern(y, "1a");
        check.due("a faulty one takes no room", y.count(5), 1);
    }

    private static void lineEmptyInEveryCase() {
        check.sentence("Sets the line as a paragraph; it is empty afterwards in every case");
        String[] texts = {"a", "", "|", "a}", "{".repeat(9), "a-".repeat(24) + "a", "a".repeat(13), "a".repeat(60)};
        int[] answers = {1, 0, 0, SYNTAX, BIG, BIG, OVERFULL, OVERFULL};
        for (int k = 0; k < texts.length; k++) {
            Counted x = check.fresh();
            check.type(x, texts[k]);
            check.due("paragraph() of \"" + texts[k] + "\"", x.paragraph(), answers[k]);
            check.due("the line behind it", x.count(6), 0);
            check.due("paragraph() of what is left", x.paragraph(), 0);
        }
    }

    private static void whicheverComesFirst() {
        check.sentence("SYNTAX or BIG, whichever comes up first in EXPANSION; else BIG for too many breaks");
        Counted x = check.made(10);
        check.define(x, 'A', "");
        String nine = "{".repeat(9);
        check.paragraph(x, "." + nine, SYNTAX);
        check.paragraph(x, nine + ".", BIG);
        check.paragraph(x, "}" + "A".repeat(41), SYNTAX);
        check.paragraph(x, "A".repeat(41) + "}", BIG);
        check.paragraph(x, "a-".repeat(24) + "a.", SYNTAX);
        check.paragraph(x, "a-".repeat(24) + "a" + nine, BIG);
        check.paragraph(x, "a-".repeat(24) + "aB", SYNTAX);
        check.paragraph(x, "aaaaa.", SYNTAX);
        check.paragraph(x, "aaaaa" + nine, BIG);
        check.paragraph(x, "aaaaa", OVERFULL);
        check.same("none of them", Checker.seen(x), NOTHING_SEEN);
    }

    private static void settingStays() {
        check.sentence("With an answer below 0 the SETTING there was stays");
        Counted x = check.made(25);
        check.pattern(x, "b1c");
        check.define(x, 'A', "bb");
        check.sets(x, "aaAcc", "aabb-", "cc");
        String before = Checker.seen(x);
        String[] texts = {"b.", "{".repeat(9), "b-".repeat(24) + "b", "bbbbbbb", "~"};
        int[] answers = {SYNTAX, BIG, BIG, OVERFULL, OVERFULL};
        for (int k = 0; k < texts.length; k++) {
            check.paragraph(x, texts[k], answers[k]);
            check.same("\"" + texts[k] + "\"", Checker.seen(x), before);
        }
    }

    private static void settingWithoutLines() {
        check.sentence("else, without ITEMS: a SETTING without lines, 0");
        Counted x = check.fresh();
        check.define(x, 'A', " ");
        check.sets(x, "a|b", "a", "b");
        check.paragraph(x, "AA", 0);
        check.same("\"AA\"", Checker.seen(x), "cost 0 counts 0 0 0 0 2 0 0");
        check.due("line(0, 0)", x.line(0, 0), REFUSED);
        check.due("character(0, 0)", x.character(0, 0), REFUSED);
        check.due("place(0, 0)", x.place(0, 0), REFUSED);
        // It is a SETTING, and stays with an answer below 0.
        check.paragraph(x, "}", SYNTAX);
        check.due("macros called", x.count(4), 2);
        check.paragraph(x, "~", OVERFULL);
        check.due("macros called", x.count(4), 2);
    }

    private static void costWithout() {
        check.sentence("The sum of the COSTS of the latest SETTING, 0 if there was none");
        Counted x = check.fresh();
        check.due("cost()", x.cost(), 0);
        check.paragraph(x, "aaaaaaaaaaaaa", OVERFULL);
        check.due("cost()", x.cost(), 0);
        check.paragraph(x, "a|b|c", 3);
        check.due("cost()", x.cost(), 300);
        check.paragraph(x, ".", SYNTAX);
        check.due("cost()", x.cost(), 300);
        check.paragraph(x, "a", 1);
        check.due("cost()", x.cost(), 100);
        check.paragraph(x, "", 0);
        check.due("cost()", x.cost(), 0);
    }

    private static void costBeyondAnInt() {
        check.sentence("long cost()");
        Counted x = check.made(50, 10000, 100);
        check.width(x, 'a', 9);
        check.define(x, 'A', "a~a a~a a~a a~a a~a a~a ");
        check.paragraph(x, "=9AAAA", 24);
        check.due("cost()", x.cost(), 23L * 9833 * 9833 + 10000);
        check.that("more than an int holds", x.cost() > Integer.MAX_VALUE);
    }

    private static Counted twoLines() {
        Counted x = check.made(40);
        check.pattern(x, "b1c");
        check.width(x, '-', 3);
        check.sets(x, "=9aa aabbccdd", "aa aabb-", "ccdd");
        return x;
    }

    private static void noSuchLine() {
        check.sentence("No such line ...: REFUSED");
        Counted x = twoLines();
        check.told(x, 0, 2, 2, 42, -2, 29, 6);
        check.told(x, 1, 3, 4, 20, 20, 0, 4);
        int[] wrong = {-1, 2, 3, 23, 24, 25, Integer.MIN_VALUE, Integer.MAX_VALUE};
        for (int i : wrong) {
            for (int what = -1; what <= 6; what++) {
                check.due("line(" + i + ", " + what + ")", x.line(i, what), REFUSED);
            }
            check.due("character(" + i + ", 0)", x.character(i, 0), REFUSED);
            check.due("character(" + i + ", 99)", x.character(i, 99), REFUSED);
            check.due("place(" + i + ", 0)", x.place(i, 0), REFUSED);
        }
        // Lines of an earlier, longer setting are no lines of the latest.
        check.sets(x, "a", "a");
        check.due("line(1, 0)", x.line(1, 0), REFUSED);
        check.due("character(1, 0)", x.character(1, 0), REFUSED);
        check.due("place(1, 0)", x.place(1, 0), REFUSED);
        check.due("character(0, 1)", x.character(0, 1), 0);
    }

    private static void anotherWhat() {
        check.sentence("another what: REFUSED");
        Counted x = twoLines();
        for (int i = 0; i < 2; i++) {
            check.due("line(" + i + ", -1)", x.line(i, -1), REFUSED);
            check.due("line(" + i + ", 6)", x.line(i, 6), REFUSED);
            for (int far : FAR) {
                check.due("line(" + i + ", " + far + ")", x.line(i, far), REFUSED);
            }
        }
        check.due("count(-1)", x.count(-1), REFUSED);
        check.due("count(7)", x.count(7), REFUSED);
        for (int far : FAR) {
            check.due("count(" + far + ")", x.count(far), REFUSED);
        }
    }

    private static void lettersOfALine() {
        check.sentence("letters (5)");
        Counted x = check.made(400);
        check.width(x, 'z', 1);
        check.sets(x, "-", "-");
        check.due("none", x.line(0, 5), 0);
        check.sets(x, "~-~a-", " - a-");
        check.due("one", x.line(0, 5), 1);
        check.define(x, 'A', "z".repeat(24));
        check.paragraph(x, "AAAAA", 1);
        check.due("120", x.line(0, 5), 120);
        check.due("the - of a break is none", twoLines().line(0, 5), 6);
    }

    private static void behindTheEnd() {
        check.sentence("0 behind the end; no such line, k below 0: REFUSED");
        Counted x = twoLines();
        int[] lengths = {8, 4};
        for (int i = 0; i < 2; i++) {
            check.that("the last one", x.character(i, lengths[i] - 1) > 0);
            for (int k : new int[] {lengths[i], lengths[i] + 1, 119, 120, 121, 65536, Integer.MAX_VALUE}) {
                check.due("character(" + i + ", " + k + ")", x.character(i, k), 0);
            }
            for (int k : new int[] {-1, -2, -120, -65536, Integer.MIN_VALUE}) {
                check.due("character(" + i + ", " + k + ")", x.character(i, k), REFUSED);
            }
        }
    }

    private static void characterOfALine() {
        check.sentence("its ITEMS in order, a blank or ~ as a blank (codes), then a - if its break is of kind 2");
        Counted x = twoLines();
        String first = "aa aabb-";
        for (int k = 0; k < first.length(); k++) {
            check.due("character(0, " + k + ")", x.character(0, k), first.charAt(k));
        }
        check.due("no - where the break is of kind 4", x.character(1, 4), 0);
        check.parameter(x, 0, 20);
        check.width(x, '-', 5);
        check.sets(x, "~aa- ddd|a~-", " aa-", "ddd", "a -");
    }

    private static void noSuchCharacter() {
        check.sentence("No such line or character: REFUSED");
        Counted x = twoLines();
        check.due("the first", x.place(0, 0), 0);
        check.due("the hyphen", x.place(0, 7), 37);
        check.due("behind the hyphen", x.place(0, 8), REFUSED);
        check.due("the last of a line without one", x.place(1, 3), 15);
        check.due("behind it", x.place(1, 4), REFUSED);
        for (int i = 0; i < 2; i++) {
            for (int far : FAR) {
                check.due("place(" + i + ", " + far + ")", x.place(i, far), REFUSED);
            }
            check.due("place(" + i + ", -1)", x.place(i, -1), REFUSED);
        }
    }

    private static void placesRoundedDown() {
        check.sentence("D * s / S more, rounded down towards less");
        // D -1 by spaces of 3 3 3: -1/3, -2/3 and -1.
        Counted x = check.made(28);
        check.sets(x, "=3a~a~a~a", "a a a a");
        check.told(x, 0, 1, 4, 29, -1, 3, 4);
        check.places(x, 0, 0, 5, 7, 12, 15, 20, 23);
        // D -2: -2/3, -4/3 and -2.
        check.parameter(x, 0, 27);
        check.sets(x, "=3a~a~a~a", "a a a a");
        check.places(x, 0, 0, 5, 7, 12, 14, 19, 22);
        // D 1 and 2 by a stretch of 2 2 2.
        check.parameter(x, 0, 30);
        check.sets(x, "=3a~a~a~a bbbbbb", "a a a a", "bbbbbb");
        check.told(x, 0, 1, 0, 29, 1, 0, 4);
        check.places(x, 0, 0, 5, 8, 13, 16, 21, 25);
        check.parameter(x, 0, 31);
        check.sets(x, "=3a~a~a~a bbbbbb", "a a a a", "bbbbbb");
        check.places(x, 0, 0, 5, 8, 13, 17, 22, 26);
    }

    private static void placesByStretchOrShrink() {
        check.sentence("where s is the STRETCH (D above 0) or SHRINK (D below 0) of those before it");
        // A space of 9 stretches by 5 and shrinks by 3, one of 1 stretches by 1 and does not shrink.
        Counted x = check.made(26);
        check.sets(x, "=9a~a=1~a ccccc", "a a a", "ccccc");
        check.told(x, 0, 1, 0, 25, 1, 0, 3);
        check.places(x, 0, 0, 5, 14, 19, 21);
        check.parameter(x, 0, 24);
        check.sets(x, "=9a~a=1~a", "a a a");
        check.told(x, 0, 1, 4, 25, -1, 3, 3);
        check.places(x, 0, 0, 5, 13, 18, 19);
        // Nothing shrinks here, but it stretches.
        check.parameter(x, 0, 13);
        check.sets(x, "=2a~a cc", "a a", "cc");
        check.told(x, 0, 1, 0, 12, 1, 100, 2);
        check.places(x, 0, 0, 5, 8);
    }

    private static void placesOfLooseLines() {
        check.sentence("unless D is above 0 at a break of kind 3 or 4");
        Counted x = check.made(400);
        check.sets(x, "=9a~a|a a", "a a", "a a");
        check.places(x, 0, 0, 5, 14);
        check.places(x, 1, 0, 5, 14);
        check.parameter(x, 0, 20);
        check.sets(x, "=9a~a|a a", "a a", "a a");
        check.places(x, 0, 0, 5, 14);
        check.places(x, 1, 0, 5, 14);
        // Below 0 it counts there, too.
        check.parameter(x, 0, 18);
        check.sets(x, "=9a~a|a a", "a a", "a a");
        check.places(x, 0, 0, 5, 13);
        check.places(x, 1, 0, 5, 13);
    }

    private static void placesOfExactLines() {
        check.sentence("(0 more if D is 0)");
        Counted x = check.made(14);
        check.sets(x, "a~a a~a|a a", "a a", "a a", "a a");
        for (int i = 0; i < 3; i++) {
            check.due("D", x.line(i, 3), 0);
            check.places(x, i, 0, 5, 9);
        }
        check.parameter(x, 0, 10);
        check.sets(x, "aa aa", "aa", "aa");
        check.places(x, 0, 0, 5);
    }

    private static void counts() {
        check.sentence("Lines ... (0), its ITEMS (1), its breaks (2), its HYPHENATION POINTS (3), macros called (4)");
        Counted x = check.made(25);
        check.pattern(x, "b1c");
        check.pattern(x, "c1c");
        check.define(x, 'A', "bb");
        check.paragraph(x, " aaAcc | ", 2);
        check.type(x, "abc");
        int[] want = {2, 6, 2, 1, 1, 2, 3};
        for (int what = 0; what < want.length; what++) {
            check.due("count(" + what + ")", x.count(what), want[what]);
        }
    }

    private static void countsWithoutItems() {
        check.sentence("(2; without ITEMS none) ... 0 each if there was none");
        Counted x = check.fresh();
        check.pattern(x, "a");
        check.type(x, "A");
        check.same("an object without a setting", Checker.seen(x), "cost 0 counts 0 0 0 0 0 1 1");
        check.due("paragraph()", x.paragraph(), SYNTAX);
        check.same("a refused paragraph", Checker.seen(x), "cost 0 counts 0 0 0 0 0 1 0");
        check.define(x, 'A', "|");
        check.paragraph(x, "A A", 0);
        check.same("a setting without ITEMS", Checker.seen(x), "cost 0 counts 0 0 0 0 2 1 0");
    }

    private static void orderOfDefine() {
        check.sentence("define: a wrong m is seen before a line of more than 24 characters");
        Counted x = check.fresh();
        check.type(x, "a".repeat(25));
        for (int m : new int[] {-1, 4, Integer.MIN_VALUE, Integer.MAX_VALUE}) {
            check.due("define(" + m + ") with 25", x.define(m), REFUSED);
        }
        for (int m = 0; m <= 3; m++) {
            check.due("define(" + m + ") with 25", x.define(m), FULL);
        }
        check.due("the line stays", x.count(6), 25);
        check.type(x, "a".repeat(35));
        check.due("define(4) with 60", x.define(4), REFUSED);
        check.due("define(3) with 60", x.define(3), FULL);
    }

    /** An object with something of everything, whose numbers are all at an edge that probe looks at. */
    private static Counted full() {
        Counted x = check.made(25, 100, 7, 11, 13);
        check.width(x, 'h', 4);
        check.pattern(x, "b1c");
        check.pattern(x, "d1e");
        check.define(x, 'A', "b#c");
        check.define(x, 'D', "");
        check.sets(x, "Aa-h", "bac-h");
        return x;
    }

    /** All that can be seen of an object, and then what its line, macros, patterns and numbers do. */
    private static String probe(Counted x) {
        StringBuilder all = new StringBuilder(Checker.seen(x));
        all.append(" line: ").append(x.paragraph()).append(' ').append(Checker.shown(x, 0));
        for (String text : new String[] {"aabbccddeeff", "ah bb cc", "hh bb cc", "Aa", "B", "C", "Da", "-"}) {
            for (int k = 0; k < text.length(); k++) {
                x.type(text.charAt(k));
            }
            all.append(" ").append(text).append(": ").append(x.paragraph()).append(' ').append(x.cost())
                .append(' ').append(x.line(0, 2)).append(' ').append(x.count(3));
        }
        return all.toString();
    }

    private static void changesNothing(String name, int answer, Call before, Call call) {
        Counted with = full();
        before.of(with);
        check.due(name, call.of(with), answer);
        Counted without = full();
        before.of(without);
        check.same(name, probe(with), probe(without));
    }

    private static int typeAll(Counted x, String text) {
        check.type(x, text);
        return DONE;
    }

    private static void refusedCallsOfTheLine() {
        check.sentence("A refused call (an answer below 0) changes nothing but what is said: the line's");
        Call word = x -> typeAll(x, "hah");
        Call sixty = x -> typeAll(x, "h".repeat(60));
        Call long25 = x -> typeAll(x, "{" + "h=1".repeat(7) + "h}a");
        Call twenty = x -> {
            for (int k = 2; k < 20; k++) {
                check.pattern(x, "z1z");
            }
            return typeAll(x, "d1d");
        };
        changesNothing("type('E')", REFUSED, word, x -> x.type('E'));
        changesNothing("type(256 + 'a')", REFUSED, word, x -> x.type(256 + 'a'));
        changesNothing("type('a') on a full line", FULL, sixty, x -> x.type('a'));
        changesNothing("type('E') on a full line", REFUSED, sixty, x -> x.type('E'));
        changesNothing("define(-1)", REFUSED, word, x -> x.define(-1));
        changesNothing("define(4)", REFUSED, word, x -> x.define(4));
        changesNothing("define(0) with 25", FULL, long25, x -> x.define(0));
        changesNothing("define(1) with 25", FULL, long25, x -> x.define(1));
        changesNothing("define(4) with 25", REFUSED, long25, x -> x.define(4));
        changesNothing("pattern() of an empty line", SYNTAX, x -> DONE, x -> x.pattern());
        changesNothing("pattern() of a faulty line", SYNTAX, x -> typeAll(x, "a1b.c"), x -> x.pattern());
        changesNothing("pattern() of six signs", SYNTAX, x -> typeAll(x, "a1b1c1d1e1f"), x -> x.pattern());
        changesNothing("pattern() of two digits", SYNTAX, x -> typeAll(x, "a1b11"), x -> x.pattern());
        changesNothing("the 21st pattern()", FULL, twenty, x -> x.pattern());
    }

    private static void refusedCallsWithNumbers() {
        check.sentence("A refused call (an answer below 0) changes nothing but what is said: numbers out of range");
        Call word = x -> typeAll(x, "hah");
        int[] most = {400, 10000, 100, 200, 10000};
        int[] least = {10, 0, 0, 0, 0};
        for (int i = 0; i < most.length; i++) {
            int p = i;
            changesNothing("parameter(" + i + ") too large", REFUSED, word, x -> x.parameter(p, most[p] + 1));
            changesNothing("parameter(" + i + ") too small", REFUSED, word, x -> x.parameter(p, least[p] - 1));
        }
        changesNothing("parameter(-1, 50)", REFUSED, word, x -> x.parameter(-1, 50));
        changesNothing("parameter(5, 50)", REFUSED, word, x -> x.parameter(5, 50));
        for (char c : "abch-".toCharArray()) {
            changesNothing("width(" + c + ", 0)", REFUSED, word, x -> x.width(c, 0));
            changesNothing("width(" + c + ", 21)", REFUSED, word, x -> x.width(c, 21));
            changesNothing("width(" + c + " + 256, 9)", REFUSED, word, x -> x.width(c + 256, 9));
        }
        changesNothing("width('`', 9)", REFUSED, word, x -> x.width('`', 9));
        changesNothing("width('{', 9)", REFUSED, word, x -> x.width('{', 9));
        changesNothing("width('~', 9)", REFUSED, word, x -> x.width('~', 9));
        changesNothing("line(1, 0)", REFUSED, word, x -> x.line(1, 0));
        changesNothing("line(0, 6)", REFUSED, word, x -> x.line(0, 6));
        changesNothing("character(0, -1)", REFUSED, word, x -> x.character(0, -1));
        changesNothing("place(0, 5)", REFUSED, word, x -> x.place(0, 5));
        changesNothing("count(7)", REFUSED, word, x -> x.count(7));
    }

    private static void refusedParagraphs() {
        check.sentence("A refused call (an answer below 0) changes nothing but what is said: paragraph");
        String[] texts = {".", "{=9a", "{".repeat(9), "=9}", "A", "B", "a-".repeat(24) + "a", "aaaaaa", "~", "bbcc|~"};
        int[] answers = {SYNTAX, SYNTAX, BIG, SYNTAX, SYNTAX, SYNTAX, BIG, OVERFULL, OVERFULL, OVERFULL};
        for (int k = 0; k < texts.length; k++) {
            Counted with = full();
            check.paragraph(with, texts[k], answers[k]);
            check.same("paragraph \"" + texts[k] + "\"", probe(with), probe(full()));
        }
    }

    private static void lastPromisedCall() {
        check.sentence("An object is used for at most 512 calls after it has been made");
        Counted x = check.fresh();
        for (int k = 1; k <= 20; k++) {
            x.type('b');
            x.type('1');
            x.type('c');
            check.due("pattern()", x.pattern(), k);
        }
        for (int m = 0; m < 4; m++) {
            check.due("define(" + m + ")", x.define(m), DONE);
        }
        check.parameter(x, 0, 25);
        while (x.calls() < 450) {
            x.type('a');
            x.type('A');
            check.due("paragraph()", x.paragraph(), 1);
        }
        while (x.calls() < 510) {
            x.type('}');
        }
        check.due("paragraph(), the 511th call", x.paragraph(), SYNTAX);
        check.due("character(0, 0), the 512th call", x.character(0, 0), 'a');
        check.due("calls", x.calls(), 512);
    }
}
