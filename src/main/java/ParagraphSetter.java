/** Sets a line of text with macros and groups as a paragraph of the least cost. */
public final class ParagraphSetter {
    public static final int DONE = 0;
    public static final int REFUSED = -1;
    public static final int FULL = -2;
    public static final int SYNTAX = -3;
    public static final int BIG = -4;
    public static final int OVERFULL = -5;

    private static final int LINE_ROOM = 60;
    private static final int MACROS = 4;
    private static final int BODY_ROOM = 24;
    private static final int CALLS = 40;
    private static final int LIST_ROOM = 200;
    private static final int GROUPS = 8;
    private static final int FIRST_SPACE = 4;
    private static final int ITEMS = 120;
    private static final int PATTERNS = 20;
    private static final int SIGNS = 5;
    private static final int BREAKS = 24;

    // Every step takes a character off: the line's, and at most a full list for each macro called.
    private static final int STEPS = LINE_ROOM + CALLS * LIST_ROOM;

    private static final int LETTERS = 26;
    private static final int FIRST_WIDTH = 5;
    private static final int MOST_WIDTH = 20;

    private static final int MEASURE = 0;
    private static final int TOLERANCE = 1;
    private static final int LINE = 2;
    private static final int HYPHEN = 3;
    private static final int DOUBLE = 4;
    private static final int[] LEAST_VALUES = {10, 0, 0, 0, 0};
    private static final int[] MOST_VALUES = {400, 10000, 100, 200, 10000};
    private static final int[] FIRST_VALUES = {60, 200, 10, 50, 0};

    private static final int AT_BEGINNING = -1;
    private static final int AT_BLANK = 0;
    private static final int BEHIND_DASH = 1;
    private static final int AT_POINT = 2;
    private static final int AT_BAR = 3;
    private static final int AT_END = 4;

    private static final long NOT_ALLOWED = -1;

    private final Row typed = new Row(LINE_ROOM);
    private final int[] widths = new int[LETTERS + 1];
    private final int[] parameters = new int[FIRST_VALUES.length];
    private final Expander expander = new Expander();
    private final Hyphenator hyphenator = new Hyphenator();
    private final Chooser chooser = new Chooser();
    private Setting latest = new Setting();
    private Setting draft = new Setting();

    public ParagraphSetter() {
        for (int k = 0; k < widths.length; k++) {
            widths[k] = FIRST_WIDTH;
        }
        for (int k = 0; k < parameters.length; k++) {
            parameters[k] = FIRST_VALUES[k];
        }
    }

    public int type(int c) {
        if (!isOfLine(c)) {
            return REFUSED;
        }
        if (typed.isFull()) {
            return FULL;
        }
        typed.add(c);
        return typed.size;
    }

    public int wipe() {
        typed.clear();
        return DONE;
    }

    public int width(int c, int w) {
        if (!hasWidth(c) || w < 1 || w > MOST_WIDTH) {
            return REFUSED;
        }
        widths[widthIndex(c)] = w;
        return DONE;
    }

    public int parameter(int i, int v) {
        if (i < 0 || i >= parameters.length || v < LEAST_VALUES[i] || v > MOST_VALUES[i]) {
            return REFUSED;
        }
        parameters[i] = v;
        return DONE;
    }

    public int define(int m) {
        if (m < 0 || m >= MACROS) {
            return REFUSED;
        }
        if (typed.size > BODY_ROOM) {
            return FULL;
        }
        expander.macros[m].become(typed);
        typed.clear();
        return DONE;
    }

    public int pattern() {
        if (hyphenator.isFull()) {
            return FULL;
        }
        if (!hyphenator.learn(typed)) {
            return SYNTAX;
        }
        typed.clear();
        return hyphenator.size;
    }

    public int paragraph() {
        int answer = expander.expand(typed, draft.text);
        typed.clear();
        if (answer != DONE) {
            return answer;
        }
        draft.calls = expander.calls;
        draft.text.tidy();
        hyphenator.weigh(draft.text);
        if (!draft.breaks.find(draft.text, hyphenator)) {
            return BIG;
        }
        draft.measure(widths, parameters);
        if (!chooser.choose(draft)) {
            return OVERFULL;
        }
        showDraft();
        return latest.lines;
    }

    public long cost() {
        return latest.total;
    }

    public int line(int i, int what) {
        if (!latest.hasLine(i)) {
            return REFUSED;
        }
        int from = latest.ends[i];
        int to = latest.ends[i + 1];
        switch (what) {
            case 0:
                return to;
            case 1:
                return latest.breaks.kinds[to];
            case 2:
                return latest.natural(from, to);
            case 3:
                return latest.difference(from, to);
            case 4:
                return (int) latest.badness(from, to);
            case 5:
                return latest.letters(from, to);
            default:
                return REFUSED;
        }
    }

    public int character(int i, int k) {
        if (!latest.hasLine(i) || k < 0) {
            return REFUSED;
        }
        return latest.codeAt(i, k);
    }

    public int place(int i, int k) {
        if (!latest.hasLine(i) || k < 0 || k >= latest.length(i)) {
            return REFUSED;
        }
        return latest.placeOf(i, k);
    }

    public int count(int what) {
        switch (what) {
            case 0:
                return latest.lines;
            case 1:
                return latest.text.size;
            case 2:
                return latest.breaks.size;
            case 3:
                return latest.breaks.points();
            case 4:
                return latest.calls;
            case 5:
                return hyphenator.size;
            case 6:
                return typed.size;
            default:
                return REFUSED;
        }
    }

    private void showDraft() {
        Setting old = latest;
        latest = draft;
        draft = old;
    }

    private static boolean isLetter(int c) {
        return c >= 'a' && c <= 'z';
    }

    private static boolean isDigit(int c) {
        return c >= '0' && c <= '9';
    }

    private static boolean isMacroName(int c) {
        return c >= 'A' && c < 'A' + MACROS;
    }

    private static boolean isOfLine(int c) {
        return isItem(c) || isMacroName(c) || isDigit(c)
            || c == '{' || c == '}' || c == '#' || c == '=' || c == '.';
    }

    private static boolean isItem(int c) {
        return hasWidth(c) || isSpace(c) || c == '|';
    }

    private static boolean isSpace(int c) {
        return c == ' ' || c == '~';
    }

    private static boolean hasWidth(int c) {
        return isLetter(c) || c == '-';
    }

    private static int widthIndex(int c) {
        return isLetter(c) ? c - 'a' : LETTERS;
    }

    /** Characters in a row, with a room that is never left. */
    private static final class Row {
        private final int[] codes;
        private int size;

        Row(int room) {
            codes = new int[room];
            size = 0;
        }

        boolean isFull() {
            return size == codes.length;
        }

        void clear() {
            size = 0;
        }

        void add(int c) {
            if (size < codes.length) {
                codes[size] = c;
                size++;
            }
        }

        void become(Row other) {
            clear();
            for (int k = 0; k < other.size; k++) {
                add(other.codes[k]);
            }
        }

        int howMany(int c) {
            int found = 0;
            for (int k = 0; k < size; k++) {
                if (codes[k] == c) {
                    found++;
                }
            }
            return found;
        }
    }

    /** A body for a macro name; an empty body is not the same as none. */
    private static final class Macro {
        private final Row body = new Row(BODY_ROOM);
        private boolean defined = false;

        void become(Row line) {
            body.become(line);
            defined = true;
        }
    }

    /** Turns a line into items, by a list whose front is at the first index in use. */
    private static final class Expander {
        private final Macro[] macros = new Macro[MACROS];
        private final int[] list = new int[LIST_ROOM];
        private int first;
        private final Row argument = new Row(LIST_ROOM);
        private final int[] outerSpaces = new int[GROUPS];
        private int open;
        private int space;
        private int calls;

        Expander() {
            for (int k = 0; k < MACROS; k++) {
                macros[k] = new Macro();
            }
        }

        int expand(Row line, Text text) {
            begin(line);
            text.size = 0;
            for (int step = 0; step < STEPS && !isListEmpty(); step++) {
                int answer = obey(takeOff(), text);
                if (answer != DONE) {
                    return answer;
                }
            }
            return open > 0 ? SYNTAX : DONE;
        }

        private void begin(Row line) {
            first = LIST_ROOM - line.size;
            for (int k = 0; k < line.size; k++) {
                list[first + k] = line.codes[k];
            }
            open = 0;
            space = FIRST_SPACE;
            calls = 0;
        }

        private boolean isListEmpty() {
            return first >= LIST_ROOM;
        }

        private int takeOff() {
            int c = list[first];
            first++;
            return c;
        }

        private int obey(int c, Text text) {
            if (isMacroName(c)) {
                return callMacro(macros[c - 'A']);
            }
            if (c == '{') {
                return openGroup();
            }
            if (c == '}') {
                return closeGroup();
            }
            if (c == '=') {
                return changeSpace();
            }
            if (!isItem(c)) {
                return SYNTAX;
            }
            return text.add(c, isSpace(c) ? space : 0) ? DONE : BIG;
        }

        private int callMacro(Macro macro) {
            if (!macro.defined) {
                return SYNTAX;
            }
            if (calls == CALLS) {
                return BIG;
            }
            calls++;
            int marks = macro.body.howMany('#');
            if (marks > 0 && !takeArgument()) {
                return SYNTAX;
            }
            int added = macro.body.size + marks * (argument.size - 1);
            if (added > first) {
                return BIG;
            }
            first -= added;
            putInFront(macro.body);
            return DONE;
        }

        private boolean takeArgument() {
            argument.clear();
            if (isListEmpty() || list[first] == '}') {
                return false;
            }
            int c = takeOff();
            if (c == '{') {
                return takeGroup();
            }
            argument.add(c);
            return true;
        }

        private boolean takeGroup() {
            int depth = 1;
            for (int k = first; k < LIST_ROOM; k++) {
                if (list[k] == '{') {
                    depth++;
                } else if (list[k] == '}') {
                    depth--;
                }
                if (depth == 0) {
                    first = k + 1;
                    return true;
                }
                argument.add(list[k]);
            }
            return false;
        }

        private void putInFront(Row body) {
            int at = first;
            for (int k = 0; k < body.size; k++) {
                if (body.codes[k] == '#') {
                    for (int n = 0; n < argument.size; n++) {
                        list[at + n] = argument.codes[n];
                    }
                    at += argument.size;
                } else {
                    list[at] = body.codes[k];
                    at++;
                }
            }
        }

        private int openGroup() {
            if (open == GROUPS) {
                return BIG;
            }
            outerSpaces[open] = space;
            open++;
            return DONE;
        }

        private int closeGroup() {
            if (open == 0) {
                return SYNTAX;
            }
            open--;
            space = outerSpaces[open];
            return DONE;
        }

        private int changeSpace() {
            if (isListEmpty()) {
                return SYNTAX;
            }
            int c = takeOff();
            if (!isDigit(c) || c == '0') {
                return SYNTAX;
            }
            space = c - '0';
            return DONE;
        }
    }

    /** The items of a paragraph; a blank and a ~ bear a space, the others 0. */
    private static final class Text {
        private final int[] codes = new int[ITEMS];
        private final int[] spaces = new int[ITEMS];
        private int size = 0;

        boolean add(int c, int space) {
            if (size == ITEMS) {
                return false;
            }
            codes[size] = c;
            spaces[size] = space;
            size++;
            return true;
        }

        boolean isBlank(int k) {
            return k >= 0 && k < size && codes[k] == ' ';
        }

        boolean isLetterAt(int k) {
            return k >= 0 && k < size && isLetter(codes[k]);
        }

        // The order of these is the document's: each looks at what the ones before have left.
        void tidy() {
            dropBlanksBehind();
            dropBlanksBefore();
            dropBarsBehind();
            if (size > 0 && codes[size - 1] == '|') {
                size--;
            }
        }

        private void dropBlanksBehind() {
            int kept = 0;
            for (int k = 0; k < size; k++) {
                boolean goes = codes[k] == ' '
                    && (kept == 0 || codes[kept - 1] == ' ' || codes[kept - 1] == '|');
                if (!goes) {
                    move(k, kept);
                    kept++;
                }
            }
            size = kept;
        }

        private void dropBlanksBefore() {
            int kept = 0;
            for (int k = 0; k < size; k++) {
                boolean goes = codes[k] == ' ' && (k + 1 == size || codes[k + 1] == '|');
                if (!goes) {
                    move(k, kept);
                    kept++;
                }
            }
            size = kept;
        }

        private void dropBarsBehind() {
            int kept = 0;
            for (int k = 0; k < size; k++) {
                boolean goes = codes[k] == '|' && (kept == 0 || codes[kept - 1] == '|');
                if (!goes) {
                    move(k, kept);
                    kept++;
                }
            }
            size = kept;
        }

        private void move(int from, int to) {
            codes[to] = codes[from];
            spaces[to] = spaces[from];
        }
    }

    /** Signs, with the levels before, between and behind them. */
    private static final class Pattern {
        private final int[] signs = new int[SIGNS];
        private final int[] levels = new int[SIGNS + 1];
        private int size = 0;

        boolean read(Row line) {
            size = 0;
            levels[0] = 0;
            boolean levelRead = false;
            for (int k = 0; k < line.size; k++) {
                int c = line.codes[k];
                if (isDigit(c)) {
                    if (levelRead) {
                        return false;
                    }
                    levels[size] = c - '0';
                    levelRead = true;
                } else {
                    if (!addSign(c)) {
                        return false;
                    }
                    levelRead = false;
                }
            }
            return size > 0 && hasPointsAtEdgesOnly();
        }

        private boolean addSign(int c) {
            if (size == SIGNS || !isLetter(c) && c != '.') {
                return false;
            }
            signs[size] = c;
            size++;
            levels[size] = 0;
            return true;
        }

        private boolean hasPointsAtEdgesOnly() {
            for (int k = 1; k < size - 1; k++) {
                if (signs[k] == '.') {
                    return false;
                }
            }
            return true;
        }
    }

    /** The patterns, and the greatest level that counts for the gap before each item of a text. */
    private static final class Hyphenator {
        private final Pattern[] patterns = new Pattern[PATTERNS];
        private int size = 0;
        private final int[] levels = new int[ITEMS + 1];

        Hyphenator() {
            for (int k = 0; k < PATTERNS; k++) {
                patterns[k] = new Pattern();
            }
        }

        boolean isFull() {
            return size == PATTERNS;
        }

        boolean learn(Row line) {
            if (isFull() || !patterns[size].read(line)) {
                return false;
            }
            size++;
            return true;
        }

        boolean isPoint(int gap) {
            return levels[gap] % 2 == 1;
        }

        void weigh(Text text) {
            for (int gap = 0; gap <= ITEMS; gap++) {
                levels[gap] = 0;
            }
            int begin = 0;
            for (int k = 0; k <= text.size; k++) {
                if (!text.isLetterAt(k)) {
                    weighWord(text, begin, k);
                    begin = k + 1;
                }
            }
        }

        private void weighWord(Text text, int begin, int end) {
            for (int p = 0; p < size; p++) {
                Pattern pattern = patterns[p];
                // The points put before and behind the word stand at begin - 1 and at end.
                for (int at = begin - 1; at + pattern.size - 1 <= end; at++) {
                    if (stands(pattern, text, at, begin, end)) {
                        raise(pattern, at, begin, end);
                    }
                }
            }
        }

        private static boolean stands(Pattern pattern, Text text, int at, int begin, int end) {
            for (int k = 0; k < pattern.size; k++) {
                boolean inWord = at + k >= begin && at + k < end;
                int sign = inWord ? text.codes[at + k] : '.';
                if (sign != pattern.signs[k]) {
                    return false;
                }
            }
            return true;
        }

        private void raise(Pattern pattern, int at, int begin, int end) {
            for (int k = 0; k <= pattern.size; k++) {
                int gap = at + k;
                if (gap >= begin + 2 && gap <= end - 2) {
                    levels[gap] = Math.max(levels[gap], pattern.levels[k]);
                }
            }
        }
    }

    /** The breaks of a text: where a line before each ends, and where one behind it begins. */
    private static final class Breaks {
        private final int[] kinds = new int[BREAKS + 1];
        private final int[] ends = new int[BREAKS + 1];
        private final int[] begins = new int[BREAKS + 1];
        private int size = 0;

        /** Answers whether there is room for them all. */
        boolean find(Text text, Hyphenator hyphenator) {
            size = 0;
            kinds[0] = AT_BEGINNING;
            ends[0] = 0;
            begins[0] = 0;
            for (int k = 0; k < text.size; k++) {
                if (hyphenator.isPoint(k) && !add(AT_POINT, k, k) || !addAt(text, k)) {
                    return false;
                }
            }
            return text.size == 0 || add(AT_END, text.size, text.size);
        }

        int points() {
            int found = 0;
            for (int k = 1; k <= size; k++) {
                if (kinds[k] == AT_POINT) {
                    found++;
                }
            }
            return found;
        }

        private boolean addAt(Text text, int k) {
            int c = text.codes[k];
            if (c == ' ') {
                return add(AT_BLANK, k, k + 1);
            }
            if (c == '|') {
                return add(AT_BAR, k, k + 1);
            }
            if (c == '-' && k + 1 < text.size) {
                // A blank can stand at the beginning of a line behind a - alone: tidy took the others.
                return add(BEHIND_DASH, k + 1, text.isBlank(k + 1) ? k + 2 : k + 1);
            }
            return true;
        }

        private boolean add(int kind, int end, int begin) {
            if (size == BREAKS) {
                return false;
            }
            size++;
            kinds[size] = kind;
            ends[size] = end;
            begins[size] = begin;
            return true;
        }
    }

    /** Sums over the items before each place of a text, so that a line's are differences. */
    private static final class Sums {
        private final int[] widths = new int[ITEMS + 1];
        private final int[] stretches = new int[ITEMS + 1];
        private final int[] shrinks = new int[ITEMS + 1];
        private final int[] letters = new int[ITEMS + 1];
        private final int[] dashes = new int[ITEMS + 1];

        void addUp(Text text, int[] widthOf) {
            for (int k = 0; k < text.size; k++) {
                int c = text.codes[k];
                int s = text.spaces[k];
                widths[k + 1] = widths[k] + (hasWidth(c) ? widthOf[widthIndex(c)] : s);
                stretches[k + 1] = stretches[k] + (s + 1) / 2;
                shrinks[k + 1] = shrinks[k] + s / 3;
                letters[k + 1] = letters[k] + (isLetter(c) ? 1 : 0);
                dashes[k + 1] = dashes[k] + (c == '-' ? 1 : 0);
            }
        }
    }

    /** A paragraph in lines, with all that is told of it, whatever is changed later. */
    private static final class Setting {
        private final Text text = new Text();
        private final Breaks breaks = new Breaks();
        private final Sums sums = new Sums();
        private final int[] parameters = new int[FIRST_VALUES.length];
        private int dashWidth = 0;
        private int calls = 0;
        private final int[] ends = new int[BREAKS + 1];
        private int lines = 0;
        private long total = 0;

        void measure(int[] widthOf, int[] values) {
            sums.addUp(text, widthOf);
            dashWidth = widthOf[widthIndex('-')];
            for (int k = 0; k < parameters.length; k++) {
                parameters[k] = values[k];
            }
        }

        boolean hasLine(int i) {
            return i >= 0 && i < lines;
        }

        int letters(int from, int to) {
            return over(sums.letters, from, to);
        }

        int natural(int from, int to) {
            return over(sums.widths, from, to) + (breaks.kinds[to] == AT_POINT ? dashWidth : 0);
        }

        int difference(int from, int to) {
            return parameters[MEASURE] - natural(from, to);
        }

        /** Answers NOT_ALLOWED where there is no line, or none that is allowed. */
        long badness(int from, int to) {
            if (letters(from, to) + over(sums.dashes, from, to) == 0) {
                return NOT_ALLOWED;
            }
            int d = difference(from, to);
            if (d == 0 || isLoose(d, to)) {
                return 0;
            }
            int give = over(d > 0 ? sums.stretches : sums.shrinks, from, to);
            if (give == 0 || -d > give) {
                return NOT_ALLOWED;
            }
            long badness = 100 * cube(Math.abs(d)) / cube(give);
            return badness > parameters[TOLERANCE] ? NOT_ALLOWED : badness;
        }

        long price(int from, int to, long badness) {
            long price = square(parameters[LINE] + badness);
            if (breaks.kinds[to] == AT_POINT) {
                price += square(parameters[HYPHEN]);
                if (breaks.kinds[from] == AT_POINT) {
                    price += parameters[DOUBLE];
                }
            }
            return price;
        }

        int length(int i) {
            return items(i) + (breaks.kinds[ends[i + 1]] == AT_POINT ? 1 : 0);
        }

        int codeAt(int i, int k) {
            if (k >= length(i)) {
                return 0;
            }
            if (k >= items(i)) {
                return '-';
            }
            int c = text.codes[breaks.begins[ends[i]] + k];
            return c == '~' ? ' ' : c;
        }

        int placeOf(int i, int k) {
            int from = ends[i];
            int to = ends[i + 1];
            int begin = breaks.begins[from];
            int before = sums.widths[begin + k] - sums.widths[begin];
            int d = difference(from, to);
            int[] gives = d > 0 ? sums.stretches : sums.shrinks;
            int give = over(gives, from, to);
            if (give == 0 || isLoose(d, to)) {
                return before;
            }
            return before + Math.floorDiv(d * (gives[begin + k] - gives[begin]), give);
        }

        private int items(int i) {
            return breaks.ends[ends[i + 1]] - breaks.begins[ends[i]];
        }

        // The last line of a stretch of text keeps its spaces as they are.
        private boolean isLoose(int d, int to) {
            return d > 0 && (breaks.kinds[to] == AT_BAR || breaks.kinds[to] == AT_END);
        }

        private int over(int[] sumsBefore, int from, int to) {
            return sumsBefore[breaks.ends[to]] - sumsBefore[breaks.begins[from]];
        }

        private static long square(long n) {
            return n * n;
        }

        private static long cube(long n) {
            return n * n * n;
        }
    }

    /** Finds the best chain of lines, from the last break back to the beginning. */
    private static final class Chooser {
        private static final int NO_BREAK = 0;

        private final long[] prices = new long[BREAKS + 1];
        private final int[] lines = new int[BREAKS + 1];
        private final int[] nexts = new int[BREAKS + 1];

        /** Answers whether there is a chain; the setting has its lines then. */
        boolean choose(Setting setting) {
            int last = setting.breaks.size;
            prices[last] = 0;
            lines[last] = 0;
            for (int from = last - 1; from >= 0; from--) {
                findNext(setting, from);
            }
            if (last > 0 && nexts[0] == NO_BREAK) {
                return false;
            }
            follow(setting);
            return true;
        }

        private void findNext(Setting setting, int from) {
            int last = setting.breaks.size;
            nexts[from] = NO_BREAK;
            boolean open = true;
            for (int to = from + 1; to <= last && open; to++) {
                long badness = setting.badness(from, to);
                boolean goesOn = to == last || nexts[to] != NO_BREAK;
                if (goesOn && badness != NOT_ALLOWED) {
                    keepBetter(from, to, setting.price(from, to, badness));
                }
                open = setting.breaks.kinds[to] != AT_BAR;
            }
        }

        private void keepBetter(int from, int to, long price) {
            long sum = prices[to] + price;
            int many = lines[to] + 1;
            // Among equals the earlier break stays: it was tried first.
            if (nexts[from] == NO_BREAK || sum < prices[from]
                || sum == prices[from] && many < lines[from]) {
                prices[from] = sum;
                lines[from] = many;
                nexts[from] = to;
            }
        }

        private void follow(Setting setting) {
            int last = setting.breaks.size;
            setting.total = prices[0];
            setting.lines = lines[0];
            setting.ends[0] = 0;
            for (int i = 0; i < setting.lines && setting.ends[i] < last; i++) {
                setting.ends[i + 1] = nexts[setting.ends[i]];
            }
        }
    }
}
