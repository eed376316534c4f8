/** Promise 11: character. */
public final class Promise11CharacterTest {
    private static final int REFUSED = ParagraphSetter.REFUSED;

    private static final Checker check = new Checker("Promise11CharacterTest");

    public static void main(String[] args) {
        itemsInOrder();
        blanks();
        hyphens();
        leftOut();
        longestLine();
        behindTheEnd();
        below();
        noSuchLine();
        latestSetting();
        check.finish();
    }

    private static void itemsInOrder() {
        check.sentence("Character k (from 0) of line i: its ITEMS in order ... (codes)");
        Counted x = check.made(400);
        String letters = "abcdefghijklmnopqrstuvwxyz-";
        check.paragraph(x, letters + "|zy", 2);
        for (int k = 0; k < letters.length(); k++) {
            check.due("character(0, " + k + ")", x.character(0, k), letters.charAt(k));
        }
        check.due("character(1, 0)", x.character(1, 0), 'z');
        check.due("character(1, 1)", x.character(1, 1), 'y');
    }

    private static void blanks() {
        check.sentence("a blank or ~ as a blank");
        Counted x = check.made(400);
        check.paragraph(x, "a b~c~ ~d", 1);
        int[] want = {'a', ' ', 'b', ' ', 'c', ' ', ' ', ' ', 'd', 0};
        for (int k = 0; k < want.length; k++) {
            check.due("character(0, " + k + ")", x.character(0, k), want[k]);
        }
    }

    private static Counted twoLines() {
        Counted x = check.made(40);
        check.pattern(x, "b1c");
        check.width(x, '-', 3);
        check.paragraph(x, "=9aa aabbccdd", 2);
        return x;
    }

    private static void hyphens() {
        check.sentence("then a - if its break is of kind 2");
        Counted x = twoLines();
        check.lines(x, "aa aabb-", "ccdd");
        check.due("the last ITEM", x.character(0, 6), 'b');
        check.due("the - behind it", x.character(0, 7), '-');
        check.due("no - where the break is of kind 4", x.character(1, 4), 0);
        // Nor is there a second one behind a - of the text, or one at a blank or |.
        check.parameter(x, 0, 23);
        check.sets(x, "aabb-cc", "aabb-", "cc");
        check.due("kind 1", x.character(0, 5), 0);
        check.parameter(x, 0, 10);
        check.sets(x, "aa aa|a", "aa", "aa", "a");
        check.due("kind 0", x.character(0, 2), 0);
        check.due("kind 3", x.character(1, 2), 0);
    }

    private static void leftOut() {
        check.sentence("the ITEM of a break at a blank or | left out, and blanks at its beginning left out");
        Counted x = check.made(20);
        check.sets(x, "~aa- ddd|a~-", " aa-", "ddd", "a -");
        check.due("the first behind a - and a blank", x.character(1, 0), 'd');
    }

    private static void longestLine() {
        check.sentence("its ITEMS in order, up to 120 of them");
        Counted x = check.made(400);
        check.width(x, 'z', 1);
        check.define(x, 'A', "z".repeat(24));
        check.paragraph(x, "AAAA" + "z".repeat(23) + "-", 1);
        for (int k = 0; k < 119; k++) {
            check.due("character(0, " + k + ")", x.character(0, k), 'z');
        }
        check.due("character(0, 119)", x.character(0, 119), '-');
        check.due("character(0, 120)", x.character(0, 120), 0);
        check.due("character(0, 121)", x.character(0, 121), 0);
    }

    private static void behindTheEnd() {
        check.sentence("0 behind the end");
        Counted x = twoLines();
        int[] lengths = {8, 4};
        for (int i = 0; i < 2; i++) {
            check.that("the last one", x.character(i, lengths[i] - 1) > 0);
            for (int k : new int[] {lengths[i], lengths[i] + 1, 119, 120, 121, 65536, Integer.MAX_VALUE}) {
                check.due("character(" + i + ", " + k + ")", x.character(i, k), 0);
            }
        }
    }

    private static void below() {
        check.sentence("k below 0: REFUSED");
        Counted x = twoLines();
        for (int i = 0; i < 2; i++) {
            for (int k : new int[] {-1, -2, -120, -65536, Integer.MIN_VALUE}) {
                check.due("character(" + i + ", " + k + ")", x.character(i, k), REFUSED);
            }
        }
    }

    private static void noSuchLine() {
        check.sentence("no such line ...: REFUSED");
        Counted x = twoLines();
        for (int i : new int[] {-1, 2, 3, 24, Integer.MIN_VALUE, Integer.MAX_VALUE}) {
            for (int k : new int[] {-1, 0, 1, 99, Integer.MAX_VALUE}) {
                check.due("character(" + i + ", " + k + ")", x.character(i, k), REFUSED);
            }
        }
        check.due("character(0, 0) without a setting", check.fresh().character(0, 0), REFUSED);
    }

    private static void latestSetting() {
        check.sentence("of the latest SETTING");
        Counted x = twoLines();
        check.type(x, "zz");
        check.due("with another line typed", x.character(0, 0), 'a');
        check.due("paragraph()", x.paragraph(), 1);
        check.due("character(0, 0)", x.character(0, 0), 'z');
        check.due("character(0, 2)", x.character(0, 2), 0);
        check.due("character(1, 0)", x.character(1, 0), REFUSED);
        check.paragraph(x, "y}", ParagraphSetter.SYNTAX);
        check.due("character(0, 0) behind a refused one", x.character(0, 0), 'z');
        check.paragraph(x, "", 0);
        check.due("character(0, 0) of a setting without lines", x.character(0, 0), REFUSED);
    }
}
