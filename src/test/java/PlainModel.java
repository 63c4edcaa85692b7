import java.util.ArrayList;
import java.util.Collections;
import java.util.HashSet;
import java.util.List;
import java.util.Set;
import java.util.TreeMap;
import java.util.TreeSet;

/**
 * The document's words taken one by one, by search instead of arithmetic where that is possible,
 * and drawn from the beginning for every question: slow, but with nothing kept that could be stale.
 */
final class PlainModel {
    static final int BAD = -1, STATE = -2, FULL = -3, NONE = -9, NO = -2000000000;
    private static final long LIMIT = 1000000;

    private static final class Pt {
        boolean gap;
        int x, y, e;
    }

    private static final class Ser {
        int[] style = new int[3];
        List<Pt> pts = new ArrayList<>();
    }

    /** What one series has in one cell. */
    private static final class Ink {
        Set<List<Integer>> dots = new HashSet<>();
        int eighths = 0;
        TreeSet<Integer> points = new TreeSet<>(Collections.reverseOrder());
    }

    private int columns = 20, rows = 8;
    private final int[] kind = {0, 0}, low = {0, 0}, high = {10, 10}, from = {0, 0}, to = {0, 0};
    private final List<Ser> sers = new ArrayList<>();
    private List<int[]> labels = new ArrayList<>();

    /** Another one in this state; points never change, so both may have the same ones. */
    PlainModel copy() {
        PlainModel like = new PlainModel();
        like.columns = columns;
        like.rows = rows;
        for (int axis = 0; axis <= 1; axis++) {
            like.kind[axis] = kind[axis];
            like.low[axis] = low[axis];
            like.high[axis] = high[axis];
            like.from[axis] = from[axis];
            like.to[axis] = to[axis];
        }
        for (Ser s : sers) {
            Ser one = new Ser();
            one.style = s.style.clone();
            one.pts.addAll(s.pts);
            like.sers.add(one);
        }
        like.labels.addAll(labels);
        return like;
    }

    private static boolean in(long v, long a, long b) {
        return a <= v && v <= b;
    }

    private static boolean axisIs(int axis) {
        return axis == 0 || axis == 1;
    }

    private boolean serIs(int s) {
        return in(s, 0, sers.size() - 1);
    }

    private boolean ptIs(int s, int p) {
        return serIs(s) && in(p, 0, sers.get(s).pts.size() - 1);
    }

    private int dotsOf(int axis) {
        return axis == 0 ? 2 * columns : 4 * rows;
    }

    private int placeOf(int axis, long v) {
        if (v < low[axis] || v > high[axis]) {
            return NONE;
        }
        long a = v - low[axis];
        long s = high[axis] - low[axis];
        if (kind[axis] == 2) {
            if (v > from[axis] && v < to[axis]) {
                return NONE;
            }
            s -= to[axis] - from[axis];
            if (v >= to[axis]) {
                a -= to[axis] - from[axis];
            }
        }
        long n = dotsOf(axis);
        int p = (int) Math.floorDiv(2 * a * (n - 1) + s, 2 * s);
        return kind[axis] == 1 ? (int) n - 1 - p : p;
    }

    int canvas(int c, int r) {
        if (!in(c, 4, 40) || !in(r, 2, 16)) {
            return BAD;
        }
        columns = c;
        rows = r;
        labels.clear();
        return 1;
    }

    int scale(int axis, int k, int l, int h) {
        if (!axisIs(axis) || !in(k, 0, 1) || !in(l, -LIMIT, LIMIT) || !in(h, -LIMIT, LIMIT) || l >= h) {
            return BAD;
        }
        int was = kind[axis];
        kind[axis] = k;
        low[axis] = l;
        high[axis] = h;
        return was;
    }

    int cut(int axis, int f, int t) {
        if (!axisIs(axis) || !(low[axis] < f && f < t && t < high[axis])) {
            return BAD;
        }
        int was = kind[axis];
        kind[axis] = 2;
        from[axis] = f;
        to[axis] = t;
        return was;
    }

    int fit(int axis) {
        if (!axisIs(axis)) {
            return BAD;
        }
        TreeSet<Long> values = new TreeSet<>();
        for (Ser s : sers) {
            for (Pt p : s.pts) {
                if (!p.gap && axis == 0) {
                    values.add((long) p.x);
                }
                if (!p.gap && axis == 1) {
                    values.add(Math.max(-LIMIT, (long) p.y - p.e));
                    values.add(Math.min(LIMIT, (long) p.y + p.e));
                }
            }
        }
        if (values.isEmpty()) {
            return STATE;
        }
        long l = values.first();
        long h = values.last() == l ? l + 1 : values.last();
        if (h > LIMIT) {
            return STATE;
        }
        kind[axis] = 0;
        low[axis] = (int) l;
        high[axis] = (int) h;
        return 1;
    }

    int place(int axis, int v) {
        return axisIs(axis) ? placeOf(axis, v) : BAD;
    }

    int value(int axis, int dot) {
        if (!axisIs(axis) || !in(dot, 0, dotsOf(axis) - 1)) {
            return NO;
        }
        for (int v = low[axis]; v <= high[axis]; v++) {
            if (placeOf(axis, v) == dot) {
                return v;
            }
        }
        return NO;
    }

    private List<Integer> ticks(int axis, int m, int[] step) {
        for (long tens = 1;; tens *= 10) {
            for (long tenths : new long[] {10, 20, 25, 50}) {
                if (tens * tenths % 10 != 0) {
                    continue;
                }
                long by = tens * tenths / 10;
                List<Integer> found = new ArrayList<>();
                long first = low[axis] - Math.floorMod((long) low[axis], by);
                for (long v = first; v <= high[axis] && found.size() <= m; v += by) {
                    if (placeOf(axis, v) != NONE) {
                        found.add((int) v);
                    }
                }
                if (found.size() <= m) {
                    step[0] = (int) by;
                    return found;
                }
            }
        }
    }

    int step(int axis, int m) {
        if (!axisIs(axis) || !in(m, 2, 20)) {
            return BAD;
        }
        int[] by = {0};
        ticks(axis, m, by);
        return by[0];
    }

    int tick(int axis, int m, int k) {
        if (!axisIs(axis) || !in(m, 2, 20)) {
            return NO;
        }
        List<Integer> found = ticks(axis, m, new int[1]);
        return in(k, 0, found.size() - 1) ? found.get(k) : NO;
    }

    private static boolean styleIs(int what, int v) {
        return what == 0 && in(v, 0, 4) || what == 1 && in(v, 0, 9) || what == 2 && in(v, 33, 126);
    }

    int series(int mark, int layer, int sign) {
        if (!styleIs(0, mark) || !styleIs(1, layer) || !styleIs(2, sign)) {
            return BAD;
        }
        if (sers.size() == 6) {
            return FULL;
        }
        Ser s = new Ser();
        s.style = new int[] {mark, layer, sign};
        sers.add(s);
        return sers.size() - 1;
    }

    int style(int series, int what, int v) {
        if (!serIs(series) || !styleIs(what, v)) {
            return BAD;
        }
        int was = sers.get(series).style[what];
        sers.get(series).style[what] = v;
        return was;
    }

    private int grow(int series, boolean gap, int x, int y, int e) {
        List<Pt> pts = sers.get(series).pts;
        if (pts.size() == 24) {
            return FULL;
        }
        Pt p = new Pt();
        p.gap = gap;
        p.x = x;
        p.y = y;
        p.e = e;
        pts.add(p);
        return pts.size() - 1;
    }

    int point(int series, int x, int y, int e) {
        if (!serIs(series) || !in(x, -LIMIT, LIMIT) || !in(y, -LIMIT, LIMIT) || !in(e, 0, LIMIT)) {
            return BAD;
        }
        return grow(series, false, x, y, e);
    }

    int gap(int series) {
        return serIs(series) ? grow(series, true, 0, 0, 0) : BAD;
    }

    int drop(int series) {
        if (!serIs(series)) {
            return BAD;
        }
        List<Pt> pts = sers.get(series).pts;
        if (pts.isEmpty()) {
            return STATE;
        }
        int gone = pts.size() - 1;
        pts.remove(gone);
        labels.removeIf(l -> l[3] == series && l[4] == gone);
        return gone;
    }

    /** Both places of a point that is seen; null. */
    private int[] seen(int series, int point) {
        if (!ptIs(series, point) || sers.get(series).pts.get(point).gap) {
            return null;
        }
        Pt p = sers.get(series).pts.get(point);
        int px = placeOf(0, p.x);
        int py = placeOf(1, p.y);
        return px == NONE || py == NONE ? null : new int[] {px, py};
    }

    int about(int series, int point, int what) {
        if (!ptIs(series, point) || !in(what, 0, 4) || sers.get(series).pts.get(point).gap) {
            return NO;
        }
        Pt p = sers.get(series).pts.get(point);
        if (what < 3) {
            return new int[] {p.x, p.y, p.e}[what];
        }
        int[] places = seen(series, point);
        return places == null ? NO : places[what - 3];
    }

    int count(int series, int what) {
        if (!serIs(series) || !in(what, 0, 4)) {
            return BAD;
        }
        StringBuilder kinds = new StringBuilder();
        int seen = 0;
        for (int i = 0; i < sers.get(series).pts.size(); i++) {
            kinds.append(sers.get(series).pts.get(i).gap ? 'g' : 'p');
            seen += seen(series, i) == null ? 0 : 1;
        }
        String all = kinds.toString();
        switch (what) {
            case 0: return all.length();
            case 1: return all.replace("p", "").length();
            case 2: return (int) java.util.Arrays.stream(all.split("g+")).filter(r -> !r.isEmpty()).count();
            case 3: return seen;
            default: return drawn(series).size();
        }
    }

    int five(int series, int k) {
        if (!serIs(series) || !in(k, 0, 4)) {
            return NO;
        }
        List<Integer> ys = new ArrayList<>();
        for (Pt p : sers.get(series).pts) {
            if (!p.gap) {
                ys.add(p.y);
            }
        }
        Collections.sort(ys);
        return ys.isEmpty() ? NO : ys.get(k * (ys.size() - 1) / 4);
    }

    private void dot(TreeMap<Integer, Ink> sheet, int x, int y, int point) {
        Ink ink = ink(sheet, x / 2, rows - 1 - y / 4, point);
        ink.dots.add(List.of(x % 2, 3 - y % 4));
    }

    private Ink ink(TreeMap<Integer, Ink> sheet, int column, int row, int point) {
        Ink ink = sheet.computeIfAbsent(100 * row + column, c -> new Ink());
        ink.points.add(point);
        return ink;
    }

    private TreeMap<Integer, Ink> drawn(int series) {
        TreeMap<Integer, Ink> sheet = new TreeMap<>();
        Ser s = sers.get(series);
        for (int i = 0; i < s.pts.size(); i++) {
            int[] now = seen(series, i);
            if (now == null) {
                continue;
            }
            int[] before = seen(series, i - 1);
            switch (s.style[0]) {
                case 0: ink(sheet, now[0] / 2, rows - 1 - now[1] / 4, i); break;
                case 1: line(sheet, before, now, i); break;
                case 2: steps(sheet, before, now, i); break;
                case 3: bar(sheet, now, i); break;
                default: range(sheet, s.pts.get(i), now, i); break;
            }
        }
        return sheet;
    }

    private void line(TreeMap<Integer, Ink> sheet, int[] before, int[] now, int i) {
        dot(sheet, now[0], now[1], i);
        if (before == null) {
            return;
        }
        int n = Math.max(Math.abs(now[0] - before[0]), Math.abs(now[1] - before[1]));
        for (int k = 0; k <= n && n > 0; k++) {
            double x = Math.floor((2 * k * (now[0] - before[0]) + n) / (2.0 * n));
            double y = Math.floor((2 * k * (now[1] - before[1]) + n) / (2.0 * n));
            dot(sheet, before[0] + (int) x, before[1] + (int) y, i);
        }
    }

    private void steps(TreeMap<Integer, Ink> sheet, int[] before, int[] now, int i) {
        dot(sheet, now[0], now[1], i);
        if (before == null) {
            return;
        }
        for (int x = Math.min(before[0], now[0]); x <= Math.max(before[0], now[0]); x++) {
            dot(sheet, x, before[1], i);
        }
        for (int y = Math.min(before[1], now[1]); y <= Math.max(before[1], now[1]); y++) {
            dot(sheet, now[0], y, i);
        }
    }

    private void bar(TreeMap<Integer, Ink> sheet, int[] now, int i) {
        for (int eighth = 0; eighth < 2 * (now[1] + 1); eighth++) {
            Ink ink = ink(sheet, now[0] / 2, rows - 1 - eighth / 8, i);
            ink.eighths = Math.max(ink.eighths, eighth % 8 + 1);
        }
    }

    private void range(TreeMap<Integer, Ink> sheet, Pt p, int[] now, int i) {
        int a = placeOf(1, (long) p.y - p.e);
        int b = placeOf(1, (long) p.y + p.e);
        a = a == NONE ? now[1] : a;
        b = b == NONE ? now[1] : b;
        for (int y = Math.min(a, b); y <= Math.max(a, b); y++) {
            dot(sheet, now[0], y, i);
        }
    }

    /** The numbers of all series, the latest drawn first. */
    private List<Integer> latestFirst() {
        List<Integer> order = new ArrayList<>();
        for (int i = 0; i < sers.size(); i++) {
            order.add(i);
        }
        order.sort((a, b) -> sers.get(a).style[1] != sers.get(b).style[1]
            ? sers.get(b).style[1] - sers.get(a).style[1] : b - a);
        return order;
    }

    private int labelIn(int column, int row) {
        for (int i = 0; i < labels.size(); i++) {
            int[] l = labels.get(i);
            if (l[1] == row && l[0] <= column && column <= l[0] + l[2] - 1) {
                return i;
            }
        }
        return NONE;
    }

    private List<TreeMap<Integer, Ink>> sheets() {
        List<TreeMap<Integer, Ink>> sheets = new ArrayList<>();
        for (int i = 0; i < sers.size(); i++) {
            sheets.add(drawn(i));
        }
        return sheets;
    }

    /** The sign, and what is shown, of each cell. */
    private int[][][] picture() {
        int[][][] picture = new int[rows][columns][];
        List<TreeMap<Integer, Ink>> sheets = sheets();
        List<Integer> order = latestFirst();
        for (int row = 0; row < rows; row++) {
            for (int column = 0; column < columns; column++) {
                picture[row][column] = new int[] {32, NONE};
                for (int i = order.size() - 1; i >= 0; i--) {
                    Ink ink = sheets.get(order.get(i)).get(100 * row + column);
                    if (ink != null) {
                        picture[row][column] = new int[] {signOf(sers.get(order.get(i)), ink), order.get(i)};
                    }
                }
                int label = labelIn(column, row);
                if (label != NONE) {
                    picture[row][column] = new int[] {8192 + label, 10 + label};
                }
            }
        }
        return picture;
    }

    private static int signOf(Ser s, Ink ink) {
        if (s.style[0] == 0) {
            return s.style[2];
        }
        if (s.style[0] == 3) {
            return 9600 + ink.eighths;
        }
        int[][] bits = {{1, 2, 4, 64}, {8, 16, 32, 128}};
        int sign = 10240;
        for (List<Integer> d : ink.dots) {
            sign += bits[d.get(0)][d.get(1)];
        }
        return sign;
    }

    private boolean cellIs(int column, int row) {
        return in(column, 0, columns - 1) && in(row, 0, rows - 1);
    }

    int at(int column, int row) {
        return cellIs(column, row) ? picture()[row][column][0] : BAD;
    }

    int shown(int column, int row) {
        return cellIs(column, row) ? picture()[row][column][1] : BAD;
    }

    int hit(int column, int row, int k) {
        if (!cellIs(column, row) || k < 0) {
            return BAD;
        }
        List<Integer> hits = new ArrayList<>();
        for (int s : latestFirst()) {
            Ink ink = drawn(s).get(100 * row + column);
            if (ink != null) {
                for (int p : ink.points) {
                    hits.add(100 * s + p);
                }
            }
        }
        return k < hits.size() ? hits.get(k) : NONE;
    }

    int inked() {
        int inked = 0;
        for (int[][] row : picture()) {
            for (int[] cell : row) {
                inked += cell[0] == 32 ? 0 : 1;
            }
        }
        return inked;
    }

    long digest() {
        long h = 7;
        for (int[][] row : picture()) {
            for (int[] cell : row) {
                h = 31 * h + cell[0];
            }
        }
        return h;
    }

    int label(int series, int point, int length) {
        if (!ptIs(series, point) || !in(length, 1, 10)) {
            return BAD;
        }
        int[] places = seen(series, point);
        if (places == null) {
            return STATE;
        }
        if (labels.size() == 20) {
            return FULL;
        }
        int column = places[0] / 2;
        int row = rows - 1 - places[1] / 4;
        int[][] ways = {{column + 1, row}, {column - length, row}, {column, row - 1}, {column, row + 1}};
        int[][][] picture = picture();
        for (int way = 0; way < 4; way++) {
            boolean free = true;
            for (int i = 0; i < length && free; i++) {
                free = cellIs(ways[way][0] + i, ways[way][1])
                    && picture[ways[way][1]][ways[way][0] + i][1] == NONE;
            }
            if (free) {
                labels.add(new int[] {ways[way][0], ways[way][1], length, series, point});
                return way;
            }
        }
        return NONE;
    }

    int labelled(int label, int what) {
        return in(label, 0, labels.size() - 1) && in(what, 0, 4) ? labels.get(label)[what] : BAD;
    }

    int legend(int w, int h) {
        if (!in(w, 1, columns) || !in(h, 1, rows)) {
            return BAD;
        }
        int[] covered = new int[4];
        int[][][] picture = picture();
        for (int row = 0; row < rows; row++) {
            for (int column = 0; column < columns; column++) {
                int ink = picture[row][column][1] == NONE ? 0 : 1;
                boolean above = row < h, below = row >= rows - h;
                boolean left = column < w, right = column >= columns - w;
                covered[0] += above && left ? ink : 0;
                covered[1] += above && right ? ink : 0;
                covered[2] += below && left ? ink : 0;
                covered[3] += below && right ? ink : 0;
            }
        }
        int best = 3;
        for (int corner = 3; corner >= 0; corner--) {
            best = covered[corner] <= covered[best] ? corner : best;
        }
        return best;
    }

    int told(int what) {
        if (!in(what, 0, 9)) {
            return NO;
        }
        return new int[] {sers.size(), labels.size(), columns, rows, kind[0], kind[1], low[0], low[1],
            high[0], high[1]}[what];
    }
}
