/** The boundary cases that "Terms" names for words, PATTERNS, BREAKS, lines, their COST and THE SETTING. */
public final class BreakEdgesTest {
    private static final int BIG = ParagraphSetter.BIG;
    private static final int OVERFULL = ParagraphSetter.OVERFULL;

    private static final Checker check = new Checker("BreakEdgesTest");

    public static void main(String[] args) {
        wordsEnd();
        levelsOfFiveSigns();
        signsOfAPattern();
        pointsBesideAWord();
        twoLettersAtLeast();
        oddLevels();
        greatestLevel();
        noLevel();
        dashAtTheEnd();
        breaksInOrder();
        twentyFourBlanks();
        twentyFourDashes();
        twentyFourPoints();
        twentyFourBars();
        breaksBeforeOverfull();
        noBarBetween();
        itemsLeftOut();
        blankAtItsBeginning();
        letterOrDash();
        naturalWithHyphen();
        stretches();
        shrinks();
        exactLines();
        looseLines();
        nothingToStretch();
        nothingToShrink();
        shrunkToTheLast();
        badnessIsTolerance();
        badnessRoundedDown();
        costOfALine();
        costOfHyphens();
        leastSum();
        fewestLines();
        leastBreak();
        asItWasWhenMade();
        check.finish();
    }

    private static Counted wide(String... patterns) {
        Counted x = check.made(400);
        for (String pattern : patterns) {
            check.pattern(x, pattern);
        }
        return x;
    }

    private static void points(Counted x, String text, int want) {
        check.type(x, text);
        x.paragraph();
        check.due("HYPHENATION POINTS of \"" + text + "\"", x.count(3), want);
    }

    private static void breaks(Counted x, String text, int want) {
        check.paragraph(x, text, 1);
        check.due("breaks of \"" + text + "\"", x.count(2), want);
        check.due("number of the last break of \"" + text + "\"", x.line(0, 0), want);
    }

    private static void wordsEnd() {
        check.sentence("A WORD is as many letters as stand together among the ITEMS");
        Counted x = wide("a1a");
        points(x, "aaaa", 1);
        points(x, "aa-aa", 0);
        points(x, "aa~aa", 0);
        points(x, "aa aa", 0);
        points(x, "aa|aa", 0);
        points(x, "aa{}aa", 1);
        points(x, "a=5a{aa}", 1);
        points(x, "aaaa-aaaa~aaaa aaaa|aaaa", 5);
    }

    private static void levelsOfFiveSigns() {
        check.sentence("with a level 0 .. 9 before, between and behind them");
        for (int place = 0; place <= 5; place++) {
            Counted x = check.made(45 + 5 * place);
            check.width(x, 'x', 20);
            String pattern = "abcde".substring(0, place) + "1" + "abcde".substring(place);
            check.pattern(x, pattern);
            // Without a space a line must be exact, so this is the only gap that will do.
            String first = "xx" + "abcde".substring(0, place);
            check.sets(x, "xxabcdeyy", first + "-", "abcde".substring(place) + "yy");
            check.due("HYPHENATION POINTS by " + pattern, x.count(3), 1);
            check.due("break", x.line(0, 0), 1);
            check.due("kind", x.line(0, 1), 2);
        }
    }

    private static void signsOfAPattern() {
        check.sentence("A PATTERN is 1 .. 5 signs, each a letter or a point");
        points(wide("1a"), "aaaa", 1);
        points(wide("1a"), "bbbb", 0);
        points(wide("az1za"), "azza", 1);
        points(wide("az1za"), "azzb", 0);
        points(wide("ab1cde"), "abcde", 1);
        points(wide("ab1cde"), "abcdf", 0);
        points(wide("ab1cde"), "zbcde", 0);
        points(wide(".ab1cd"), "abcd", 1);
        points(wide(".ab1cd"), "aabcd", 0);
        points(wide("ab1cd."), "abcd", 1);
        points(wide("ab1cd."), "abcdd", 0);
        points(wide(".aa1a."), "aaaa", 0);
        points(wide(".a1a."), "aa", 0);
    }

    private static void pointsBesideAWord() {
        check.sentence("A WORD of m letters gets a point put before and behind it");
        points(wide(".aa1"), "aaaaaa", 1);
        points(wide("1aa."), "aaaaaa", 1);
        points(wide(".aa1aa"), "aaaa aaaa", 2);
        points(wide("aa1aa."), "aaaa-aaaa", 2);
        points(wide(".aa1"), "~aaaa~", 1);
        points(wide("."), "aaaa", 0);
        points(wide("1.1"), "aaaa", 0);
        points(wide("1.1.1"), "aaaa", 0);
        points(wide("1.a1"), "aaaa", 0);
        points(wide("1a.1"), "aaaa", 0);
    }

    private static void twoLettersAtLeast() {
        check.sentence("A gap with i letters of the WORD before it, 2 at least, and 2 at least behind it");
        for (int m = 1; m <= 20; m++) {
            points(wide("1a1"), "a".repeat(m), Math.max(0, m - 3));
        }
        Counted x = check.made(15);
        check.pattern(x, "1a1");
        check.sets(x, "aaaa", "aa-", "aa");
        check.sets(x, "aaaaa", "aa-", "aaa");
        check.parameter(x, 0, 10);
        check.paragraph(x, "aaa", OVERFULL);
        check.paragraph(x, "aaaa", OVERFULL);
        // The last gap is the one before the last two letters.
        check.parameter(x, 0, 20);
        check.sets(x, "aaaaa", "aaa-", "aa");
        check.width(x, 'z', 20);
        check.parameter(x, 0, 30);
        check.paragraph(x, "aaaaaz", OVERFULL);
        check.sets(x, "aaaaaaa", "aaaaa-", "aa");
    }

    private static void oddLevels() {
        check.sentence("is a HYPHENATION POINT if the greatest level that counts for it ... is odd");
        for (int level = 0; level <= 9; level++) {
            points(wide("a" + level + "b"), "aabb", level % 2);
            points(wide("ab" + level + "bb"), "aabbbb", level % 2);
            points(wide(level + "bb"), "aabb", level % 2);
            points(wide("aa" + level), "aabb", level % 2);
        }
    }

    private static void greatestLevel() {
        check.sentence("the greatest level that counts for it");
        for (int level = 0; level < 9; level++) {
            int next = level + 1;
            points(wide("a" + level + "b", "aa" + next), "aabb", next % 2);
            points(wide("a" + next + "b", "aa" + level), "aabb", next % 2);
        }
        points(wide("a1b", "a3b", "a9b", "a8b"), "aabb", 1);
        points(wide("a9b", "a0b"), "aabb", 1);
        // The last of twenty counts, too.
        String[] twenty = new String[20];
        for (int k = 0; k < 20; k++) {
            twenty[k] = k == 19 ? "a3b" : "a2b";
        }
        points(wide(twenty), "aabb", 1);
        // One pattern at two places of a word.
        points(wide("a1a2a"), "aaaaaa", 0);
        points(wide("a2a1a"), "aaaaaa", 0);
        points(wide("a1a2b"), "aaaaab", 1);
    }

    private static void noLevel() {
        check.sentence("(0 if none does)");
        points(wide(), "aaaaaa", 0);
        points(wide("1b"), "aaaaaa", 0);
        points(wide("aaaaa"), "aaaaaa", 0);
    }

    private static void dashAtTheEnd() {
        check.sentence("behind each - that is not the last ITEM");
        Counted x = wide();
        breaks(x, "-", 1);
        breaks(x, "a-", 1);
        breaks(x, "--", 2);
        breaks(x, "a-b", 2);
        breaks(x, "-a", 2);
        breaks(x, "a-~", 2);
        breaks(x, "a- ", 1);
        breaks(x, "a-|", 1);
        breaks(x, "a- |", 1);
        breaks(x, "a- b", 3);
        check.sets(x, "a-|b", "a-", "b");
        check.due("behind the - and at the |", x.line(0, 0), 2);
        check.due("kind", x.line(0, 1), 3);
    }

    private static void breaksInOrder() {
        check.sentence("They are numbered 1, 2, ..; ... The beginning is number 0");
        Counted x = check.made(15);
        check.pattern(x, "b1c");
        check.sets(x, "bbb bb-bbcc|bbb", "bbb", "bb-", "bb-", "cc", "bbb");
        int[] kinds = {0, 1, 2, 3, 4};
        for (int i = 0; i < kinds.length; i++) {
            check.due("break of line " + i, x.line(i, 0), i + 1);
            check.due("kind of line " + i, x.line(i, 1), kinds[i]);
        }
        check.due("breaks", x.count(2), 5);
        check.sets(x, "b", "b");
        check.due("the only break", x.line(0, 0), 1);
    }

    private static void twentyFourBlanks() {
        check.sentence("at each blank (kind 0) ... more than 24: BIG");
        Counted x = wide();
        breaks(x, "a ".repeat(23) + "a", 24);
        check.paragraph(x, "a ".repeat(24) + "a", BIG);
        check.paragraph(x, "a ".repeat(25) + "a", BIG);
        check.paragraph(x, "a ".repeat(30), BIG);
        check.due("breaks of the setting there was", x.count(2), 24);
        breaks(x, "a ".repeat(24), 24);
        breaks(x, "a ".repeat(23) + "a~a", 24);
    }

    private static void twentyFourDashes() {
        check.sentence("behind each - ... (1) ... more than 24: BIG");
        Counted x = wide();
        breaks(x, "a-".repeat(23) + "a", 24);
        check.paragraph(x, "a-".repeat(24) + "a", BIG);
        check.paragraph(x, "a-".repeat(25) + "a", BIG);
        check.paragraph(x, "-".repeat(60), BIG);
        breaks(x, "a-".repeat(24), 24);
        check.paragraph(x, "-".repeat(25), BIG);
        breaks(x, "-".repeat(24), 24);
    }

    private static void twentyFourPoints() {
        check.sentence("at each HYPHENATION POINT (2) ... more than 24: BIG");
        Counted x = wide("1a");
        breaks(x, "a".repeat(26), 24);
        check.due("HYPHENATION POINTS", x.count(3), 23);
        check.paragraph(x, "a".repeat(27), BIG);
        check.paragraph(x, "a".repeat(28), BIG);
        check.paragraph(x, "a".repeat(60), BIG);
        check.due("HYPHENATION POINTS of the setting there was", x.count(3), 23);
        breaks(x, "b".repeat(27), 1);
    }

    private static void twentyFourBars() {
        check.sentence("at each | (3), and at the end (4) ... more than 24: BIG");
        Counted x = wide();
        check.paragraph(x, "a|".repeat(23) + "a", 24);
        check.due("breaks", x.count(2), 24);
        check.due("the last one", x.line(23, 0), 24);
        check.due("its kind", x.line(23, 1), 4);
        check.due("the one before", x.line(22, 0), 23);
        check.due("its kind", x.line(22, 1), 3);
        check.paragraph(x, "a|".repeat(24) + "a", BIG);
        check.paragraph(x, "a|".repeat(25) + "a", BIG);
        check.paragraph(x, "a|".repeat(30), BIG);
        check.paragraph(x, "a|".repeat(24), 24);
        check.due("breaks", x.count(2), 24);
    }

    private static void breaksBeforeOverfull() {
        check.sentence("else BIG for too many breaks; ... else OVERFULL");
        Counted x = check.made(10);
        check.paragraph(x, "aaa" + " a".repeat(24), BIG);
        check.paragraph(x, "aaa" + " a".repeat(23), OVERFULL);
        check.paragraph(x, "~" + "|a".repeat(24), BIG);
        check.paragraph(x, "~" + "|a".repeat(23), OVERFULL);
    }

    private static void noBarBetween() {
        check.sentence("goes from one break i to a later one j with no | between");
        Counted x = wide();
        check.parameter(x, 2, 100);
        check.sets(x, "a|b", "a", "b");
        check.sets(x, "a b|c d-e|f", "a b", "c d-e", "f");
        check.due("cost()", x.cost(), 30000);
        check.parameter(x, 0, 10);
        check.paragraph(x, "aaa|b", OVERFULL);
        check.paragraph(x, "b|aaa", OVERFULL);
    }

    private static void itemsLeftOut() {
        check.sentence("the ITEM of a break at a blank or | left out");
        Counted x = check.made(15);
        check.sets(x, "aaa bbb|ccc ddd", "aaa", "bbb", "ccc", "ddd");
        int[] ends = {1, 2, 3, 4};
        int[] kinds = {0, 3, 0, 4};
        for (int i = 0; i < 4; i++) {
            check.told(x, i, ends[i], kinds[i], 15, 0, 0, 3);
            check.places(x, i, 0, 5, 10);
        }
        check.due("they are ITEMS all the same", x.count(1), 15);
    }

    private static void blankAtItsBeginning() {
        check.sentence("and blanks at its beginning left out");
        Counted x = check.made(15);
        check.sets(x, "aa- bb", "aa-", "bb");
        check.told(x, 0, 1, 1, 15, 0, 0, 2);
        check.told(x, 1, 3, 4, 10, 5, 0, 2);
        check.places(x, 1, 0, 5);
        // A ~ is none: it stays, and counts.
        check.sets(x, "aa-~bb", "aa-", " bb");
        check.told(x, 1, 2, 4, 14, 1, 0, 2);
        check.sets(x, "~a", " a");
        check.told(x, 0, 1, 4, 9, 6, 0, 1);
        check.parameter(x, 0, 400);
        check.sets(x, "aa- bb", "aa- bb");
    }

    private static void letterOrDash() {
        check.sentence("It must have a letter or -");
        Counted x = check.made(16);
        check.sets(x, "-", "-");
        check.sets(x, "~-", " -");
        check.sets(x, "a", "a");
        for (String text : new String[] {"~", "~~", "~ ~", "a|~", "~|a", "a|~|b", "~|-"}) {
            check.paragraph(x, text, OVERFULL);
        }
        // Exact but for the letter.
        check.paragraph(x, "~~~~ aaa", OVERFULL);
        check.paragraph(x, "~~~~|aaa", OVERFULL);
        check.parameter(x, 0, 17);
        check.sets(x, "-~~~ aaa", "-   ", "aaa");
        check.sets(x, "a~~~ aaa", "a   ", "aaa");
        // Between the - and the blank there is no line.
        check.parameter(x, 0, 10);
        check.parameter(x, 2, 0);
        check.sets(x, "a- bb", "a-", "bb");
        check.told(x, 0, 1, 1, 10, 0, 0, 1);
        check.due("breaks", x.count(2), 3);
    }

    private static void naturalWithHyphen() {
        check.sentence("NATURAL is the sum of ..., and, if j is of kind 2, of a -");
        Counted x = check.made(30);
        check.pattern(x, "b1c");
        check.width(x, '-', 20);
        check.sets(x, "bbcccc", "bbcccc");
        check.due("kind 4", x.line(0, 2), 30);
        check.sets(x, "bbccccc", "bb-", "ccccc");
        check.due("kind 2", x.line(0, 2), 30);
        check.due("kind 4", x.line(1, 2), 25);
        check.sets(x, "aaaaaa aa-aaa|a", "aaaaaa", "aa-", "aaa", "a");
        check.due("kind 0", x.line(0, 2), 30);
        check.due("kind 1", x.line(1, 2), 30);
        check.due("kind 3", x.line(2, 2), 15);
    }

    private static Counted withRoom(int measure) {
        Counted x = check.made(measure, 10000);
        check.width(x, 'a', 9);
        check.width(x, 'b', 1);
        return x;
    }

    private static void stretches() {
        check.sentence("A blank or ~ of SPACE s stretches by (s + 1) / 2 ... rounded down");
        // D is 1: 100 by the cube of 1 1 2 2 3 3 4 4 5.
        int[] badness = {100, 100, 12, 12, 3, 3, 1, 1, 0};
        for (int s = 1; s <= 9; s++) {
            for (char space : " ~".toCharArray()) {
                Counted x = withRoom(11 + s);
                check.width(x, 'c', 11 + s);
                check.sets(x, "=" + s + "a" + space + "b c", "a b", "c");
                check.due("D", x.line(0, 3), 1);
                check.due("BADNESS with a SPACE of " + s, x.line(0, 4), badness[s - 1]);
            }
        }
    }

    private static void shrinks() {
        check.sentence("and shrinks by s / 3, rounded down");
        int[] shrink = {0, 0, 1, 1, 1, 2, 2, 2, 3};
        for (int s = 1; s <= 9; s++) {
            for (char space : " ~".toCharArray()) {
                int least = 21 + s - shrink[s - 1];
                Counted x = withRoom(least);
                check.width(x, 'a', 20);
                check.sets(x, "=" + s + "a" + space + "b", "a b");
                check.due("D", x.line(0, 3), -shrink[s - 1]);
                check.due("BADNESS", x.line(0, 4), shrink[s - 1] == 0 ? 0 : 100);
                check.parameter(x, 0, least - 1);
                check.paragraph(x, "=" + s + "a" + space + "b", OVERFULL);
            }
        }
    }

    private static void exactLines() {
        check.sentence("BADNESS: 0 if D is 0");
        Counted x = check.made(15, 0);
        check.pattern(x, "a1b");
        check.sets(x, "aaa ccc", "aaa", "ccc");
        check.told(x, 0, 1, 0, 15, 0, 0);
        check.sets(x, "aa-ccc", "aa-", "ccc");
        check.told(x, 0, 1, 1, 15, 0, 0);
        check.sets(x, "aabb", "aa-", "bb");
        check.told(x, 0, 1, 2, 15, 0, 0);
        check.sets(x, "aaa|c", "aaa", "c");
        check.told(x, 0, 1, 3, 15, 0, 0);
        check.sets(x, "aaa", "aaa");
        check.told(x, 0, 1, 4, 15, 0, 0);
    }

    private static void looseLines() {
        check.sentence("or above 0 with j of kind 3 or 4");
        Counted x = check.made(400, 0);
        check.sets(x, "a|b", "a", "b");
        check.told(x, 0, 1, 3, 5, 395, 0, 1);
        check.told(x, 1, 2, 4, 5, 395, 0, 1);
        check.sets(x, "a~b|a b", "a b", "a b");
        check.told(x, 0, 1, 3, 14, 386, 0, 2);
        check.told(x, 1, 3, 4, 14, 386, 0, 2);
        check.parameter(x, 0, 15);
        check.sets(x, "a~b|a b", "a b", "a b");
        check.told(x, 0, 1, 3, 14, 1, 0, 2);
        check.told(x, 1, 3, 4, 14, 1, 0, 2);
        check.due("cost()", x.cost(), 200);
    }

    private static void nothingToStretch() {
        check.sentence("The line is ALLOWED unless D is above 0, j of kind 0 .. 2 and STRETCH 0");
        Counted x = check.made(16, 10000);
        check.pattern(x, "a1b");
        check.paragraph(x, "aaa ccc", OVERFULL);
        check.paragraph(x, "aa-ccc", OVERFULL);
        check.paragraph(x, "aabb", OVERFULL);
        check.sets(x, "aaa|c", "aaa", "c");
        check.sets(x, "aaa", "aaa");
        check.width(x, 'a', 4);
        check.paragraph(x, "aaa cccc", OVERFULL);
        check.sets(x, "=1a~aa ccc", "a aa", "ccc");
        check.told(x, 0, 1, 0, 13, 3, 2700, 3);
    }

    private static void nothingToShrink() {
        check.sentence("or D is below -SHRINK");
        Counted x = check.made(14, 10000);
        check.pattern(x, "a1b");
        for (String text : new String[] {"aaa c", "aa-c", "aabb", "aaa|c", "aaa", "=2a~a", "=2aa~ a"}) {
            check.parameter(x, 0, text.charAt(0) == '=' ? 11 : 14);
            check.paragraph(x, text, OVERFULL);
        }
    }

    private static void shrunkToTheLast() {
        check.sentence("D below 0: 100 (-D)^3 / SHRINK^3 likewise");
        String[] texts = {"a~a bb", "a~a-bb", "a~aabb", "a~a|bb", "a~a"};
        int[] naturals = {14, 19, 24, 14, 14};
        for (int kind = 0; kind <= 4; kind++) {
            Counted x = check.made(naturals[kind] - 1, 100);
            check.pattern(x, "a1b");
            check.paragraph(x, texts[kind], kind == 4 ? 1 : 2);
            check.told(x, 0, 1, kind, naturals[kind], -1, 100);
            check.parameter(x, 1, 99);
            check.paragraph(x, texts[kind], OVERFULL);
            check.parameter(x, 1, 10000);
            check.parameter(x, 0, naturals[kind] - 2);
            check.paragraph(x, texts[kind], OVERFULL);
        }
    }

    private static void badnessIsTolerance() {
        check.sentence("or BADNESS is above TOLERANCE");
        // D of 1, 2 and 3 by a stretch of 2.
        int[] badness = {12, 100, 337};
        for (int d = 1; d <= 3; d++) {
            Counted x = check.made(14 + d, badness[d - 1]);
            check.sets(x, "a~a ccc", "a a", "ccc");
            check.told(x, 0, 1, 0, 14, d, badness[d - 1]);
            check.parameter(x, 1, badness[d - 1] - 1);
            check.paragraph(x, "a~a ccc", OVERFULL);
        }
        // D of -1 and -2 by a shrink of 3.
        int[] shrunk = {3, 29};
        for (int d = 1; d <= 2; d++) {
            Counted x = check.made(19 - d, shrunk[d - 1]);
            check.sets(x, "=9a~a ccc", "a a", "ccc");
            check.told(x, 0, 1, 0, 19, -d, shrunk[d - 1]);
            check.sets(x, "=9a~a", "a a");
            check.told(x, 0, 1, 4, 19, -d, shrunk[d - 1]);
            check.parameter(x, 1, shrunk[d - 1] - 1);
            check.paragraph(x, "=9a~a ccc", OVERFULL);
            check.paragraph(x, "=9a~a", OVERFULL);
        }
    }

    private static void badnessRoundedDown() {
        check.sentence("100 D^3 / STRETCH^3 rounded down");
        // By a stretch of 3: 3.7, 29.6, 100, 237.04, 462.96.
        int[] badness = {3, 29, 100, 237, 462};
        for (int d = 1; d <= 5; d++) {
            Counted x = check.made(15 + d, 10000);
            check.sets(x, "=5a~a ccc", "a a", "ccc");
            check.told(x, 0, 1, 0, 15, d, badness[d - 1]);
            check.due("cost()", x.cost(), (10L + badness[d - 1]) * (10 + badness[d - 1]) + 100);
        }
        // The cubes are of the sums: 100 * 2^3 / (1 + 1)^3.
        Counted x = check.made(14, 10000);
        check.sets(x, "=1a~~a cc", "a  a", "cc");
        check.told(x, 0, 1, 0, 12, 2, 100);
    }

    private static void costOfALine() {
        check.sentence("Its COST is (LINE + BADNESS)^2");
        Counted x = check.made(15, 10000, 0);
        check.sets(x, "a~a ccc", "a a", "ccc");
        check.due("LINE 0, BADNESS 12 and 0: cost()", x.cost(), 144);
        check.sets(x, "aaa ccc", "aaa", "ccc");
        check.due("LINE 0, BADNESS 0: cost()", x.cost(), 0);
        check.parameter(x, 2, 1);
        check.sets(x, "a~a ccc", "a a", "ccc");
        check.due("LINE 1, BADNESS 12 and 0: cost()", x.cost(), 169 + 1);
        check.parameter(x, 2, 100);
        check.sets(x, "a~a ccc", "a a", "ccc");
        check.due("LINE 100, BADNESS 12 and 0: cost()", x.cost(), 112 * 112 + 10000);
    }

    private static void costOfHyphens() {
        check.sentence("plus HYPHEN^2 if j is of kind 2, plus DOUBLE if i is too");
        Counted x = check.made(15, 200, 0, 3, 1000);
        check.pattern(x, "b1c");
        check.pattern(x, "c1d");
        check.sets(x, "bbccc", "bb-", "ccc");
        check.due("from 0 to a point, from there to the end: cost()", x.cost(), 9);
        check.sets(x, "bbccdd", "bb-", "cc-", "dd");
        check.due("from a point to a point: cost()", x.cost(), 9 + 9 + 1000);
        check.sets(x, "bbccc bbccc", "bb-", "ccc", "bb-", "ccc");
        check.due("from a point to a blank, and to a point: cost()", x.cost(), 9 + 9);
        check.sets(x, "bbccc|bbccc", "bb-", "ccc", "bb-", "ccc");
        check.due("from a point to a |, and to a point: cost()", x.cost(), 9 + 9);
        check.sets(x, "aa-bbccc", "aa-", "bb-", "ccc");
        check.due("from a - to a point: cost()", x.cost(), 9);
        check.sets(x, "bbcc-bbccc", "bb-", "cc-", "bb-", "ccc");
        check.due("from a point to a -, and to a point: cost()", x.cost(), 9 + 9);
    }

    private static void leastSum() {
        check.sentence("a chain of ALLOWED lines from break 0 to the last one with the least sum of COSTS");
        Counted x = check.made(75, 200, 0, 33);
        check.pattern(x, "b1c");
        for (char c : "bc-".toCharArray()) {
            check.width(x, c, 1);
        }
        // Broken at the blank, the first line has a badness of 34; at the point behind it, it costs HYPHEN alone.
        String rest = "c".repeat(20);
        String text = "=9x~x~x~x~x bbbb" + rest;
        check.sets(x, text, "x x x x x bbbb-", rest);
        check.due("cost()", x.cost(), 33 * 33);
        check.parameter(x, 3, 34);
        check.sets(x, text, "x x x x x", "bbbb" + rest);
        check.due("as much either way, at the least break: cost()", x.cost(), 34 * 34);
        check.parameter(x, 3, 35);
        check.sets(x, text, "x x x x x", "bbbb" + rest);
        check.due("cost()", x.cost(), 34 * 34);
    }

    private static void fewestLines() {
        check.sentence("of such with the fewest lines");
        Counted x = check.made(34, 200, 0);
        check.width(x, 'b', 1);
        // Three lines would end at break 1 first; two cost no more.
        check.sets(x, "=9a~~a-b|c", "a  a-b", "c");
        check.due("cost()", x.cost(), 0);
        check.due("break", x.line(0, 0), 2);
        check.parameter(x, 2, 1);
        check.sets(x, "=9a~~a-b|c", "a  a-b", "c");
        check.due("cost()", x.cost(), 2);
        // Two less make the long line dearer: 100 * 1^3 / 6^3 is 0 still, 100 * 2^3 / 6^3 is 3.
        check.parameter(x, 2, 0);
        check.parameter(x, 0, 32);
        check.sets(x, "=9a~~a-b|c", "a  a-", "b", "c");
        check.due("cost()", x.cost(), 0);
    }

    private static void leastBreak() {
        check.sentence("of such the one whose first line ends at the least break, then the second, and so on");
        Counted x = check.made(34, 200, 0);
        check.width(x, 'b', 1);
        check.sets(x, "=9a~~a-b c", "a  a-", "b c");
        check.due("the first line", x.line(0, 0), 1);
        check.sets(x, "=9c|a~~a-b c", "c", "a  a-", "b c");
        check.due("the second line", x.line(1, 0), 2);
        check.sets(x, "=9c|c|a~~a-b c", "c", "c", "a  a-", "b c");
        check.due("the third line", x.line(2, 0), 3);
        check.sets(x, "=9a~~a-b c|a~~a-b c", "a  a-", "b c", "a  a-", "b c");
        check.due("the first line", x.line(0, 0), 1);
        check.due("the third line", x.line(2, 0), 4);
    }

    private static void asItWasWhenMade() {
        check.sentence("What is told of a SETTING goes by the WIDTHS and PARAMETERS as they were when it was made");
        Counted shrunk = check.made(40);
        check.pattern(shrunk, "b1c");
        check.width(shrunk, '-', 3);
        check.sets(shrunk, "=9aa aabbccdd", "aa aabb-", "ccdd");
        staysAsItWas(shrunk);
        Counted stretched = check.made(61);
        check.sets(stretched, "=9aaa bbb~cc ddd", "aaa bbb cc", "ddd");
        staysAsItWas(stretched);
    }

    private static void staysAsItWas(Counted x) {
        String before = Checker.seen(x);
        for (char c : "abcd-".toCharArray()) {
            check.width(x, c, 20);
        }
        int[] most = {400, 10000, 100, 200, 10000};
        int[] least = {10, 0, 0, 0, 0};
        for (int i = 0; i < most.length; i++) {
            check.parameter(x, i, most[i]);
        }
        check.same("changes to the most", Checker.seen(x), before);
        for (int i = 0; i < least.length; i++) {
            check.parameter(x, i, least[i]);
        }
        check.same("changes to the least", Checker.seen(x), before);
    }
}
