import java.util.ArrayList;
import java.util.HashMap;
import java.util.List;
import java.util.Map;

/**
 * The document's words once more, slow and with the whole library: every chain of lines is tried,
 * and every number of a line is counted from its items.
 */
final class Reference {
    private static final String OF_LINE = "abcdefghijklmnopqrstuvwxyzABCD0123456789 -~|{}#=.";
    private static final int[][] RANGES = {{10, 400}, {0, 10000}, {0, 100}, {0, 200}, {0, 10000}};

    private record Item(char c, int space) {
        boolean isLetter() {
            return c >= 'a' && c <= 'z';
        }

        boolean isSpace() {
            return c == ' ' || c == '~';
        }
    }

    private record Break(int kind, int at) {
    }

    private record Pattern(String signs, int[] levels) {
    }

    private static final class Line {
        int end;
        int kind;
        List<Item> items;
        boolean hyphen;
        int natural;
        int d;
        int stretch;
        int shrink;
        long badness;
        boolean allowed;
        long cost;
        List<Integer> widths = new ArrayList<>();
    }

    private static final class Chain {
        List<Line> lines = new ArrayList<>();
        long cost;

        boolean isBetterThan(Chain other) {
            if (other == null || cost != other.cost) {
                return other == null || cost < other.cost;
            }
            if (lines.size() != other.lines.size()) {
                return lines.size() < other.lines.size();
            }
            for (int i = 0; i < lines.size(); i++) {
                if (lines.get(i).end != other.lines.get(i).end) {
                    return lines.get(i).end < other.lines.get(i).end;
                }
            }
            return false;
        }
    }

    private static final class Stop extends RuntimeException {
        private static final long serialVersionUID = 1L;
        final int answer;

        Stop(int answer) {
            super(null, null, false, false);
            this.answer = answer;
        }
    }

    private String line = "";
    private final Map<Character, Integer> widths = new HashMap<>();
    private final int[] parameters = {60, 200, 10, 50, 0};
    private final String[] macros = new String[4];
    private final List<Pattern> patterns = new ArrayList<>();

    private Chain setting = new Chain();
    private int items = 0;
    private int breaks = 0;
    private int points = 0;
    private int calls = 0;

    int type(int c) {
        if (c < 0 || c > 127 || OF_LINE.indexOf(c) < 0) {
            return -1;
        }
        if (line.length() == 60) {
            return -2;
        }
        line += (char) c;
        return line.length();
    }

    int wipe() {
        line = "";
        return 0;
    }

    int width(int c, int w) {
        if (!(c >= 'a' && c <= 'z' || c == '-') || w < 1 || w > 20) {
            return -1;
        }
        widths.put((char) c, w);
        return 0;
    }

    int parameter(int i, int v) {
        if (i < 0 || i > 4 || v < RANGES[i][0] || v > RANGES[i][1]) {
            return -1;
        }
        parameters[i] = v;
        return 0;
    }

    int define(int m) {
        if (m < 0 || m > 3) {
            return -1;
        }
        if (line.length() > 24) {
            return -2;
        }
        macros[m] = line;
        line = "";
        return 0;
    }

    int pattern() {
        if (patterns.size() == 20) {
            return -2;
        }
        if (!line.matches("([0-9]?[a-z.]){1,5}[0-9]?")) {
            return -3;
        }
        String signs = line.replaceAll("[0-9]", "");
        if (signs.length() > 2 && signs.substring(1, signs.length() - 1).contains(".")) {
            return -3;
        }
        int[] levels = new int[signs.length() + 1];
        int gap = 0;
        for (char c : line.toCharArray()) {
            if (Character.isDigit(c)) {
                levels[gap] = c - '0';
            } else {
                gap++;
            }
        }
        patterns.add(new Pattern(signs, levels));
        line = "";
        return patterns.size();
    }

    int paragraph() {
        String text = line;
        line = "";
        try {
            int[] called = {0};
            List<Item> found = tidied(expanded(text, called));
            List<Break> at = breaksOf(found);
            if (at.size() > 25) {
                throw new Stop(-4);
            }
            Chain best = found.isEmpty() ? new Chain() : best(found, at, 0, new Chain(), null);
            if (best == null) {
                throw new Stop(-5);
            }
            setting = best;
            items = found.size();
            breaks = at.size() - 1;
            points = (int) at.stream().filter(b -> b.kind == 2).count();
            calls = called[0];
            return best.lines.size();
        } catch (Stop stop) {
            return stop.answer;
        }
    }

    private List<Item> expanded(String text, int[] called) {
        List<Item> out = new ArrayList<>();
        List<Integer> groups = new ArrayList<>();
        int space = 4;
        String list = text;
        while (!list.isEmpty()) {
            char c = list.charAt(0);
            list = list.substring(1);
            if (c >= 'A' && c <= 'D') {
                list = called(c, list, called);
            } else if (c == '{') {
                if (groups.size() == 8) {
                    throw new Stop(-4);
                }
                groups.add(space);
            } else if (c == '}') {
                if (groups.isEmpty()) {
                    throw new Stop(-3);
                }
                space = groups.remove(groups.size() - 1);
            } else if (c == '=') {
                if (!list.matches("[1-9].*")) {
                    throw new Stop(-3);
                }
                space = list.charAt(0) - '0';
                list = list.substring(1);
            } else if (c == '#' || c == '.' || Character.isDigit(c)) {
                throw new Stop(-3);
            } else {
                if (out.size() == 120) {
                    throw new Stop(-4);
                }
                out.add(new Item(c, c == ' ' || c == '~' ? space : 0));
            }
        }
        if (!groups.isEmpty()) {
            throw new Stop(-3);
        }
        return out;
    }

    private String called(char name, String list, int[] called) {
        String body = macros[name - 'A'];
        if (body == null) {
            throw new Stop(-3);
        }
        if (called[0] == 40) {
            throw new Stop(-4);
        }
        called[0]++;
        if (body.contains("#")) {
            if (list.isEmpty() || list.startsWith("}")) {
                throw new Stop(-3);
            }
            int length = list.startsWith("{") ? groupLength(list) : 1;
            String argument = length == 1 ? list.substring(0, 1) : list.substring(1, length - 1);
            list = list.substring(length);
            body = body.replace("#", argument);
        }
        list = body + list;
        if (list.length() > 200) {
            throw new Stop(-4);
        }
        return list;
    }

    private static int groupLength(String list) {
        int open = 0;
        for (int k = 0; k < list.length(); k++) {
            open += list.charAt(k) == '{' ? 1 : list.charAt(k) == '}' ? -1 : 0;
            if (open == 0) {
                return k + 1;
            }
        }
        throw new Stop(-3);
    }

    private static List<Item> tidied(List<Item> items) {
        while (removeFirst(items, ' ', " |", true)) {
        }
        while (removeFirst(items, ' ', "|", false)) {
        }
        while (removeFirst(items, '|', "|", true)) {
        }
        if (!items.isEmpty() && items.get(items.size() - 1).c == '|') {
            items.remove(items.size() - 1);
        }
        return items;
    }

    /** Removes the first c at an end of the text or with one of the neighbours on that side. */
    private static boolean removeFirst(List<Item> items, char c, String neighbours, boolean behind) {
        for (int k = 0; k < items.size(); k++) {
            int n = behind ? k - 1 : k + 1;
            boolean atEdge = n < 0 || n == items.size();
            if (items.get(k).c == c && (atEdge || neighbours.indexOf(items.get(n).c) >= 0)) {
                items.remove(k);
                return true;
            }
        }
        return false;
    }

    private List<Break> breaksOf(List<Item> items) {
        List<Break> at = new ArrayList<>();
        at.add(new Break(-1, 0));
        for (int k = 0; k < items.size(); k++) {
            char c = items.get(k).c;
            if (isPoint(items, k)) {
                at.add(new Break(2, k));
            }
            if (c == ' ') {
                at.add(new Break(0, k));
            } else if (c == '|') {
                at.add(new Break(3, k));
            } else if (c == '-' && k != items.size() - 1) {
                at.add(new Break(1, k + 1));
            }
        }
        if (!items.isEmpty()) {
            at.add(new Break(4, items.size()));
        }
        return at;
    }

    private boolean isPoint(List<Item> items, int gap) {
        int begin = gap;
        while (begin > 0 && items.get(begin - 1).isLetter()) {
            begin--;
        }
        int end = gap;
        while (end < items.size() && items.get(end).isLetter()) {
            end++;
        }
        if (gap - begin < 2 || end - gap < 2) {
            return false;
        }
        StringBuilder word = new StringBuilder(".");
        for (int k = begin; k < end; k++) {
            word.append(items.get(k).c);
        }
        word.append('.');
        int most = 0;
        for (Pattern p : patterns) {
            for (int t = 0; t < p.levels.length; t++) {
                int from = gap - begin + 1 - t;
                if (from >= 0 && word.toString().startsWith(p.signs, from)) {
                    most = Math.max(most, p.levels[t]);
                }
            }
        }
        return most % 2 == 1;
    }

    private Chain best(List<Item> items, List<Break> at, int from, Chain done, Chain best) {
        if (from == at.size() - 1) {
            if (!done.isBetterThan(best)) {
                return best;
            }
            Chain copy = new Chain();
            copy.lines.addAll(done.lines);
            copy.cost = done.cost;
            return copy;
        }
        for (int to = from + 1; to < at.size(); to++) {
            Line line = lineOf(items, at, from, to);
            if (line.allowed) {
                done.lines.add(line);
                done.cost += line.cost;
                best = best(items, at, to, done, best);
                done.cost -= line.cost;
                done.lines.remove(done.lines.size() - 1);
            }
            if (at.get(to).kind == 3) {
                break;
            }
        }
        return best;
    }

    private int widthOf(char c) {
        return widths.getOrDefault(c, 5);
    }

    private Line lineOf(List<Item> items, List<Break> at, int from, int to) {
        Line line = new Line();
        line.end = to;
        line.kind = at.get(to).kind;
        line.hyphen = line.kind == 2;
        int first = at.get(from).at + (at.get(from).kind == 0 || at.get(from).kind == 3 ? 1 : 0);
        line.items = new ArrayList<>(items.subList(Math.min(first, at.get(to).at), at.get(to).at));
        while (!line.items.isEmpty() && line.items.get(0).c == ' ') {
            line.items.remove(0);
        }
        boolean ink = false;
        for (Item item : line.items) {
            int wide = item.isSpace() ? item.space : widthOf(item.c);
            line.widths.add(wide);
            line.natural += wide;
            line.stretch += item.isSpace() ? (item.space + 1) / 2 : 0;
            line.shrink += item.isSpace() ? item.space / 3 : 0;
            ink |= !item.isSpace();
        }
        line.natural += line.hyphen ? widthOf('-') : 0;
        line.d = parameters[0] - line.natural;
        line.allowed = ink && setBadness(line) && line.badness <= parameters[1];
        line.cost = (parameters[2] + line.badness) * (parameters[2] + line.badness);
        if (line.hyphen) {
            line.cost += parameters[3] * parameters[3] + (at.get(from).kind == 2 ? parameters[4] : 0);
        }
        return line;
    }

    private static boolean setBadness(Line line) {
        long d = line.d;
        if (d > 0 && line.kind < 3) {
            if (line.stretch == 0) {
                return false;
            }
            line.badness = 100 * d * d * d / ((long) line.stretch * line.stretch * line.stretch);
        } else if (d < 0) {
            if (-d > line.shrink) {
                return false;
            }
            line.badness = 100 * -d * -d * -d / ((long) line.shrink * line.shrink * line.shrink);
        }
        return true;
    }

    long cost() {
        return setting.cost;
    }

    int line(int i, int what) {
        if (i < 0 || i >= setting.lines.size() || what < 0 || what > 5) {
            return -1;
        }
        Line line = setting.lines.get(i);
        int letters = (int) line.items.stream().filter(Item::isLetter).count();
        return new int[] {line.end, line.kind, line.natural, line.d, (int) line.badness, letters}[what];
    }

    int character(int i, int k) {
        if (i < 0 || i >= setting.lines.size() || k < 0) {
            return -1;
        }
        Line line = setting.lines.get(i);
        if (k < line.items.size()) {
            Item item = line.items.get(k);
            return item.isSpace() ? ' ' : item.c;
        }
        return k == line.items.size() && line.hyphen ? '-' : 0;
    }

    int place(int i, int k) {
        if (character(i, k) <= 0) {
            return -1;
        }
        Line line = setting.lines.get(i);
        int at = 0;
        int give = 0;
        for (int n = 0; n < k; n++) {
            Item item = line.items.get(n);
            at += line.widths.get(n);
            if (item.isSpace()) {
                give += line.d > 0 ? (item.space + 1) / 2 : item.space / 3;
            }
        }
        if (line.d == 0 || line.d > 0 && line.kind >= 3) {
            return at;
        }
        int whole = line.d > 0 ? line.stretch : line.shrink;
        return at + Math.floorDiv(line.d * give, whole);
    }

    int count(int what) {
        if (what < 0 || what > 6) {
            return -1;
        }
        return new int[] {setting.lines.size(), items, breaks, points, calls, patterns.size(), line.length()}[what];
    }
}
