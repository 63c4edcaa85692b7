import java.util.ArrayList;
import java.util.Arrays;

/** Charts set in signs; ../shared/DOC.md says what each call promises. */
public final class SignCharts {
    public static final int BAD = -1, STATE = -2, FULL = -3, NONE = -9;
    public static final int NO = -2000000000;

    private static final int LIMIT = 1000000;
    private static final int LEAST_COLUMNS = 4, MOST_COLUMNS = 40, FIRST_COLUMNS = 20;
    private static final int LEAST_ROWS = 2, MOST_ROWS = 16, FIRST_ROWS = 8;
    private static final int MOST_CELLS = MOST_COLUMNS * MOST_ROWS;
    private static final int DOTS_ACROSS = 2, DOTS_UPWARDS = 4;

    private static final int STRAIGHT = 0, REVERSED = 1, CUT = 2;
    private static final int FIRST_LOW = 0, FIRST_HIGH = 10;
    private static final int LEAST_TICKS = 2, MOST_TICKS = 20;
    // Every scale lies within -LIMIT .. LIMIT, so the last step has 0 alone as a multiple on it.
    private static final int LAST_STEP = 2000000;
    private static final int[] TICK_STEPS = {
        1, 2, 5, 10, 20, 25, 50, 100, 200, 250, 500, 1000, 2000, 2500, 5000, 10000, 20000, 25000,
        50000, 100000, 200000, 250000, 500000, 1000000, 2000000};

    private static final int MOST_SERIES = 6, MOST_POINTS = 24;
    private static final int MARK = 0, LAYER = 1, SIGN = 2;
    private static final int SPOTS = 0, LINE = 1, STEPS = 2, BARS = 3, RANGES = 4;
    private static final int LAST_LAYER = 9;
    private static final int LEAST_SIGN = 33, MOST_SIGN = 126;
    private static final int BLANK_SIGN = 32, BAR_SIGN = 9600, DOTS_SIGN = 10240, LABEL_SIGN = 8192;
    // Four from above for the left half of a cell, then four for its right half.
    private static final int[] DOT_BITS = {1, 2, 4, 64, 8, 16, 32, 128};

    private static final int MOST_LABELS = 20, LONGEST_LABEL = 10;
    private static final int RIGHT = 0, LEFT = 1, ABOVE = 2, BELOW = 3;
    private static final int SHOWN_LABEL = 10, HIT_SERIES = 100;

    private final Page page;
    private final ArrayList<Series> all;
    private final Labels labels;

    public SignCharts() {
        page = new Page();
        all = new ArrayList<Series>();
        labels = new Labels();
    }

    // ---- canvas, scales

    public int canvas(int columns, int rows) {
        if (!within(columns, LEAST_COLUMNS, MOST_COLUMNS) || !within(rows, LEAST_ROWS, MOST_ROWS)) {
            return BAD;
        }
        page.resize(columns, rows);
        labels.size = 0;
        markAllStale();
        return 1;
    }

    public int scale(int axis, int kind, int low, int high) {
        Scale scale = page.scaleOf(axis);
        if (scale == null || !within(kind, STRAIGHT, REVERSED)) {
            return BAD;
        }
        if (!within(low, -LIMIT, LIMIT) || !within(high, -LIMIT, LIMIT) || low >= high) {
            return BAD;
        }
        int before = scale.kind;
        scale.spread(kind, low, high);
        markAllStale();
        return before;
    }

    public int cut(int axis, int from, int to) {
        Scale scale = page.scaleOf(axis);
        if (scale == null || scale.low >= from || from >= to || to >= scale.high) {
            return BAD;
        }
        int before = scale.kind;
        scale.leaveOut(from, to);
        markAllStale();
        return before;
    }

    public int fit(int axis) {
        Scale scale = page.scaleOf(axis);
        if (scale == null) {
            return BAD;
        }
        int least = LIMIT + 1;
        int greatest = -LIMIT - 1;
        for (int i = 0; i < all.size(); i++) {
            Series series = all.get(i);
            least = Math.min(least, series.leastOn(axis));
            greatest = Math.max(greatest, series.greatestOn(axis));
        }
        if (least > greatest) {
            return STATE;
        }
        int high = least == greatest ? greatest + 1 : greatest;
        if (high > LIMIT) {
            return STATE;
        }
        scale.spread(STRAIGHT, least, high);
        markAllStale();
        return 1;
    }

    public int place(int axis, int v) {
        Scale scale = page.scaleOf(axis);
        return scale == null ? BAD : scale.placeOf(v);
    }

    public int value(int axis, int dot) {
        Scale scale = page.scaleOf(axis);
        return scale == null ? NO : scale.leastValueAt(dot);
    }

    public int step(int axis, int m) {
        Scale scale = page.scaleOf(axis);
        return scale == null || !within(m, LEAST_TICKS, MOST_TICKS) ? BAD : scale.stepFor(m);
    }

    public int tick(int axis, int m, int k) {
        Scale scale = page.scaleOf(axis);
        return scale == null || !within(m, LEAST_TICKS, MOST_TICKS) ? NO : scale.tickAt(m, k);
    }

    // ---- series

    public int series(int mark, int layer, int sign) {
        if (!isStyle(MARK, mark) || !isStyle(LAYER, layer) || !isStyle(SIGN, sign)) {
            return BAD;
        }
        if (all.size() >= MOST_SERIES) {
            return FULL;
        }
        all.add(new Series(page, mark, layer, sign));
        return all.size() - 1;
    }

    public int style(int series, int what, int v) {
        Series styled = seriesOf(series);
        if (styled == null || !isStyle(what, v)) {
            return BAD;
        }
        return styled.restyle(what, v);
    }

    public int point(int series, int x, int y, int e) {
        Series grown = seriesOf(series);
        if (grown == null || !within(x, -LIMIT, LIMIT) || !within(y, -LIMIT, LIMIT)
                || !within(e, 0, LIMIT)) {
            return BAD;
        }
        return grown.add(false, x, y, e);
    }

    public int gap(int series) {
        Series grown = seriesOf(series);
        return grown == null ? BAD : grown.add(true, 0, 0, 0);
    }

    public int drop(int series) {
        Series shrunk = seriesOf(series);
        if (shrunk == null) {
            return BAD;
        }
        if (shrunk.size <= 0) {
            return STATE;
        }
        shrunk.removeLatest();
        labels.removeThoseAt(series, shrunk.size);
        return shrunk.size;
    }

    public int about(int series, int point, int what) {
        Series asked = seriesOf(series);
        if (asked == null || !asked.isPoint(point)) {
            return NO;
        }
        switch (what) {
            case 0: return asked.x[point];
            case 1: return asked.y[point];
            case 2: return asked.e[point];
            case 3: return asked.isSeen(point) ? asked.dotAcross(point) : NO;
            case 4: return asked.isSeen(point) ? asked.dotUpwards(point) : NO;
            default: return NO;
        }
    }

    public int count(int series, int what) {
        Series counted = seriesOf(series);
        if (counted == null) {
            return BAD;
        }
        switch (what) {
            case 0: return counted.size;
            case 1: return counted.size - counted.points();
            case 2: return counted.runs();
            case 3: return counted.seenPoints();
            case 4: return counted.cells();
            default: return BAD;
        }
    }

    public int five(int series, int k) {
        Series ordered = seriesOf(series);
        if (ordered == null || !within(k, 0, 4)) {
            return NO;
        }
        int n = ordered.points();
        return n == 0 ? NO : ordered.heightAtRank(k * (n - 1) / 4);
    }

    // ---- what is drawn

    public int at(int column, int row) {
        if (!page.has(column, row)) {
            return BAD;
        }
        drawStale();
        return signOf(column, row);
    }

    public int shown(int column, int row) {
        if (!page.has(column, row)) {
            return BAD;
        }
        int label = labels.covering(column, row);
        if (label != NONE) {
            return SHOWN_LABEL + label;
        }
        drawStale();
        return latestIn(page.cellAt(column, row));
    }

    public int hit(int column, int row, int k) {
        if (!page.has(column, row) || k < 0) {
            return BAD;
        }
        drawStale();
        int cell = page.cellAt(column, row);
        int left = k;
        for (int layer = LAST_LAYER; layer >= 0; layer--) {
            for (int number = all.size() - 1; number >= 0; number--) {
                Series series = all.get(number);
                if (series.layer != layer) {
                    continue;
                }
                int hits = series.sheet.hitsIn(cell);
                int many = Integer.bitCount(hits);
                if (left < many) {
                    return HIT_SERIES * number + bitFromTop(hits, left);
                }
                left -= many;
            }
        }
        return NONE;
    }

    public int inked() {
        drawStale();
        return coveredWithin(0, 0, page.columns, page.rows);
    }

    public long digest() {
        drawStale();
        long h = 7;
        for (int row = 0; row < page.rows; row++) {
            for (int column = 0; column < page.columns; column++) {
                h = 31 * h + signOf(column, row);
            }
        }
        return h;
    }

    // ---- labels, legend

    public int label(int series, int point, int length) {
        Series named = seriesOf(series);
        if (named == null || !named.has(point) || !within(length, 1, LONGEST_LABEL)) {
            return BAD;
        }
        if (!named.isSeen(point)) {
            return STATE;
        }
        if (labels.size >= MOST_LABELS) {
            return FULL;
        }
        drawStale();
        int column = page.columnOf(named.dotAcross(point));
        int row = page.rowOf(named.dotUpwards(point));
        for (int way = RIGHT; way <= BELOW; way++) {
            int first = firstColumn(way, column, length);
            int line = labelRow(way, row);
            if (isFree(first, line, length)) {
                labels.add(first, line, length, series, point);
                return way;
            }
        }
        return NONE;
    }

    public int labelled(int label, int what) {
        if (!within(label, 0, labels.size - 1)) {
            return BAD;
        }
        switch (what) {
            case 0: return labels.column[label];
            case 1: return labels.row[label];
            case 2: return labels.length[label];
            case 3: return labels.series[label];
            case 4: return labels.point[label];
            default: return BAD;
        }
    }

    public int legend(int w, int h) {
        if (!within(w, 1, page.columns) || !within(h, 1, page.rows)) {
            return BAD;
        }
        drawStale();
        int best = 0;
        int fewest = MOST_CELLS + 1;
        for (int corner = 0; corner < 4; corner++) {
            int column = corner % 2 == 0 ? 0 : page.columns - w;
            int row = corner < 2 ? 0 : page.rows - h;
            int covered = coveredWithin(column, row, w, h);
            if (covered < fewest) {
                fewest = covered;
                best = corner;
            }
        }
        return best;
    }

    public int told(int what) {
        switch (what) {
            case 0: return all.size();
            case 1: return labels.size;
            case 2: return page.columns;
            case 3: return page.rows;
            case 4: return page.across.kind;
            case 5: return page.upwards.kind;
            case 6: return page.across.low;
            case 7: return page.upwards.low;
            case 8: return page.across.high;
            case 9: return page.upwards.high;
            default: return NO;
        }
    }

    // ---- of this class alone

    private static boolean within(int v, int least, int most) {
        return v >= least && v <= most;
    }

    private static boolean isStyle(int what, int v) {
        switch (what) {
            case MARK: return within(v, SPOTS, RANGES);
            case LAYER: return within(v, 0, LAST_LAYER);
            case SIGN: return within(v, LEAST_SIGN, MOST_SIGN);
            default: return false;
        }
    }

    private Series seriesOf(int number) {
        return number >= 0 && number < all.size() ? all.get(number) : null;
    }

    private void markAllStale() {
        for (int i = 0; i < all.size(); i++) {
            all.get(i).stale = true;
        }
    }

    private void drawStale() {
        for (int i = 0; i < all.size(); i++) {
            all.get(i).drawIfStale();
        }
    }

    /** The number of the series drawn latest in a cell; NONE. */
    private int latestIn(int cell) {
        int latest = NONE;
        int layer = 0;
        for (int i = 0; i < all.size(); i++) {
            Series series = all.get(i);
            if (series.layer >= layer && series.sheet.hitsIn(cell) != 0) {
                latest = i;
                layer = series.layer;
            }
        }
        return latest;
    }

    private int signOf(int column, int row) {
        int label = labels.covering(column, row);
        if (label != NONE) {
            return LABEL_SIGN + label;
        }
        int cell = page.cellAt(column, row);
        Series series = seriesOf(latestIn(cell));
        return series == null ? BLANK_SIGN : series.signIn(cell);
    }

    private boolean isCovered(int column, int row) {
        return labels.covering(column, row) != NONE || latestIn(page.cellAt(column, row)) != NONE;
    }

    private int coveredWithin(int left, int top, int w, int h) {
        int covered = 0;
        for (int row = top; row < top + h; row++) {
            for (int column = left; column < left + w; column++) {
                if (isCovered(column, row)) {
                    covered++;
                }
            }
        }
        return covered;
    }

    private static int firstColumn(int way, int column, int length) {
        switch (way) {
            case RIGHT: return column + 1;
            case LEFT: return column - length;
            default: return column;
        }
    }

    private static int labelRow(int way, int row) {
        switch (way) {
            case ABOVE: return row - 1;
            case BELOW: return row + 1;
            default: return row;
        }
    }

    private boolean isFree(int column, int row, int length) {
        return page.has(column, row) && page.has(column + length - 1, row)
            && coveredWithin(column, row, length, 1) == 0;
    }

    /** The place of the one bit that has so many set bits above it; NONE. */
    private static int bitFromTop(int bits, int above) {
        int left = above;
        for (int bit = MOST_POINTS - 1; bit >= 0; bit--) {
            if ((bits >> bit & 1) == 0) {
                continue;
            }
            if (left == 0) {
                return bit;
            }
            left--;
        }
        return NONE;
    }

    /** One scale, with so many dots along it. */
    private static final class Scale {
        int kind = STRAIGHT;
        int low = FIRST_LOW;
        int high = FIRST_HIGH;
        int from;
        int to;
        int dots;

        Scale(int dots) {
            this.dots = dots;
        }

        void spread(int newKind, int newLow, int newHigh) {
            kind = newKind;
            low = newLow;
            high = newHigh;
        }

        void leaveOut(int newFrom, int newTo) {
            kind = CUT;
            from = newFrom;
            to = newTo;
        }

        private int leftOut() {
            return kind == CUT ? to - from : 0;
        }

        private boolean holds(int v) {
            return v >= low && v <= high && (kind != CUT || v <= from || v >= to);
        }

        int placeOf(int v) {
            int span = high - low - leftOut();
            if (span <= 0 || !holds(v)) {
                return NONE;
            }
            int a = kind == CUT && v >= to ? v - low - leftOut() : v - low;
            int up = (2 * a * (dots - 1) + span) / (2 * span);
            return kind == REVERSED ? dots - 1 - up : up;
        }

        int leastValueAt(int dot) {
            if (dots < 2 || dot < 0 || dot >= dots) {
                return NO;
            }
            int up = kind == REVERSED ? dots - 1 - dot : dot;
            int span = high - low - leftOut();
            // Rounded up: the least a with 2 a (dots - 1) + span at 2 span up or above.
            int a = Math.max(0, -Math.floorDiv(-span * (2 * up - 1), 2 * (dots - 1)));
            int v = low + a;
            if (kind == CUT && v > from) {
                v += leftOut();
            }
            return placeOf(v) == dot ? v : NO;
        }

        int stepFor(int m) {
            for (int step : TICK_STEPS) {
                if (ticksBelowGap(step) + ticksAboveGap(step) <= m) {
                    return step;
                }
            }
            return LAST_STEP;
        }

        int tickAt(int m, int k) {
            int step = stepFor(m);
            int below = ticksBelowGap(step);
            if (k < 0) {
                return NO;
            }
            if (k < below) {
                return firstMultiple(low, step) + k * step;
            }
            if (k - below < ticksAboveGap(step)) {
                return firstMultiple(to, step) + (k - below) * step;
            }
            return NO;
        }

        /** All ticks, where nothing is left out. */
        private int ticksBelowGap(int step) {
            return multiples(low, kind == CUT ? from : high, step);
        }

        private int ticksAboveGap(int step) {
            return kind == CUT ? multiples(to, high, step) : 0;
        }

        private static int multiples(int first, int last, int step) {
            return step <= 0 ? 0 : Math.floorDiv(last, step) - Math.floorDiv(first - 1, step);
        }

        private static int firstMultiple(int first, int step) {
            return step <= 0 ? first : (Math.floorDiv(first - 1, step) + 1) * step;
        }
    }

    /** The canvas with both of its scales. */
    private static final class Page {
        int columns = FIRST_COLUMNS;
        int rows = FIRST_ROWS;
        final Scale across = new Scale(DOTS_ACROSS * FIRST_COLUMNS);
        final Scale upwards = new Scale(DOTS_UPWARDS * FIRST_ROWS);

        void resize(int newColumns, int newRows) {
            columns = newColumns;
            rows = newRows;
            across.dots = DOTS_ACROSS * newColumns;
            upwards.dots = DOTS_UPWARDS * newRows;
        }

        Scale scaleOf(int axis) {
            switch (axis) {
                case 0: return across;
                case 1: return upwards;
                default: return null;
            }
        }

        boolean has(int column, int row) {
            return column >= 0 && column < columns && row >= 0 && row < rows;
        }

        int cellAt(int column, int row) {
            return row * columns + column;
        }

        int columnOf(int dotAcross) {
            return dotAcross / DOTS_ACROSS;
        }

        int rowOf(int dotUpwards) {
            return rows - 1 - dotUpwards / DOTS_UPWARDS;
        }
    }

    /** What one series draws: in each cell its dots or eighths, and which of its points drew there. */
    private static final class Sheet {
        private final Page page;
        private final int[] ink = new int[MOST_CELLS];
        // One bit a point: no series has more of them than an int has bits.
        private final int[] hits = new int[MOST_CELLS];

        Sheet(Page page) {
            this.page = page;
        }

        void wipe() {
            Arrays.fill(ink, 0);
            Arrays.fill(hits, 0);
        }

        int inkIn(int cell) {
            return cell >= 0 && cell < ink.length ? ink[cell] : 0;
        }

        int hitsIn(int cell) {
            return cell >= 0 && cell < hits.length ? hits[cell] : 0;
        }

        int cellsHit() {
            int cells = 0;
            for (int hit : hits) {
                if (hit != 0) {
                    cells++;
                }
            }
            return cells;
        }

        void spot(int x, int y, int point) {
            touch(page.cellAt(page.columnOf(x), page.rowOf(y)), point);
        }

        void line(int fromX, int fromY, int toX, int toY, int point) {
            int n = Math.max(Math.abs(toX - fromX), Math.abs(toY - fromY));
            if (n == 0) {
                dot(toX, toY, point);
                return;
            }
            for (int k = 0; k <= n; k++) {
                int x = fromX + Math.floorDiv(2 * k * (toX - fromX) + n, 2 * n);
                int y = fromY + Math.floorDiv(2 * k * (toY - fromY) + n, 2 * n);
                dot(x, y, point);
            }
        }

        void bar(int x, int y, int point) {
            int column = page.columnOf(x);
            int left = 2 * (y + 1);
            for (int row = page.rows - 1; row >= 0 && left > 0; row--) {
                int cell = page.cellAt(column, row);
                if (touch(cell, point)) {
                    ink[cell] = Math.max(ink[cell], Math.min(left, 8));
                }
                left -= 8;
            }
        }

        private void dot(int x, int y, int point) {
            int cell = page.cellAt(page.columnOf(x), page.rowOf(y));
            if (touch(cell, point)) {
                ink[cell] |= DOT_BITS[4 * (x & 1) + 3 - (y & 3)];
            }
        }

        /** Whether there is such a cell; then the point has a hit in it. */
        private boolean touch(int cell, int point) {
            if (cell < 0 || cell >= hits.length) {
                return false;
            }
            hits[cell] |= 1 << point;
            return true;
        }
    }

    /** A series: its points in turn, gaps among them, and what it draws. */
    private static final class Series {
        int mark;
        int layer;
        int sign;
        int size;
        boolean stale = true;
        final int[] x = new int[MOST_POINTS];
        final int[] y = new int[MOST_POINTS];
        final int[] e = new int[MOST_POINTS];
        private final boolean[] isGap = new boolean[MOST_POINTS];
        private final Page page;
        final Sheet sheet;

        Series(Page page, int mark, int layer, int sign) {
            this.page = page;
            this.mark = mark;
            this.layer = layer;
            this.sign = sign;
            sheet = new Sheet(page);
        }

        int restyle(int what, int v) {
            int before;
            switch (what) {
                case MARK:
                    before = mark;
                    mark = v;
                    stale = true;
                    return before;
                case LAYER:
                    before = layer;
                    layer = v;
                    return before;
                case SIGN:
                    before = sign;
                    sign = v;
                    return before;
                default:
                    return BAD;
            }
        }

        int add(boolean asGap, int newX, int newY, int newE) {
            if (size >= MOST_POINTS) {
                return FULL;
            }
            isGap[size] = asGap;
            x[size] = newX;
            y[size] = newY;
            e[size] = newE;
            size++;
            stale = true;
            return size - 1;
        }

        void removeLatest() {
            size = Math.max(0, size - 1);
            stale = true;
        }

        boolean has(int i) {
            return i >= 0 && i < size;
        }

        boolean isPoint(int i) {
            return has(i) && !isGap[i];
        }

        boolean isSeen(int i) {
            return isPoint(i) && page.across.placeOf(x[i]) != NONE
                && page.upwards.placeOf(y[i]) != NONE;
        }

        int dotAcross(int i) {
            return has(i) ? page.across.placeOf(x[i]) : NONE;
        }

        int dotUpwards(int i) {
            return has(i) ? page.upwards.placeOf(y[i]) : NONE;
        }

        int points() {
            int points = 0;
            for (int i = 0; i < size; i++) {
                if (isPoint(i)) {
                    points++;
                }
            }
            return points;
        }

        /** How many unbroken rows of points there are. */
        int runs() {
            int runs = 0;
            for (int i = 0; i < size; i++) {
                if (isPoint(i) && !isPoint(i - 1)) {
                    runs++;
                }
            }
            return runs;
        }

        int seenPoints() {
            int seen = 0;
            for (int i = 0; i < size; i++) {
                if (isSeen(i)) {
                    seen++;
                }
            }
            return seen;
        }

        int cells() {
            drawIfStale();
            return sheet.cellsHit();
        }

        int leastOn(int axis) {
            int least = LIMIT + 1;
            for (int i = 0; i < size; i++) {
                if (isPoint(i)) {
                    least = Math.min(least, axis == 0 ? x[i] : Math.max(-LIMIT, y[i] - e[i]));
                }
            }
            return least;
        }

        int greatestOn(int axis) {
            int greatest = -LIMIT - 1;
            for (int i = 0; i < size; i++) {
                if (isPoint(i)) {
                    greatest = Math.max(greatest, axis == 0 ? x[i] : Math.min(LIMIT, y[i] + e[i]));
                }
            }
            return greatest;
        }

        /** The y that stands at a rank when the points' y are in order; NO. */
        int heightAtRank(int rank) {
            for (int i = 0; i < size; i++) {
                if (isPoint(i) && lower(y[i]) <= rank && rank < lower(y[i] + 1)) {
                    return y[i];
                }
            }
            return NO;
        }

        private int lower(int height) {
            int lower = 0;
            for (int i = 0; i < size; i++) {
                if (isPoint(i) && y[i] < height) {
                    lower++;
                }
            }
            return lower;
        }

        int signIn(int cell) {
            switch (mark) {
                case SPOTS: return sign;
                case BARS: return BAR_SIGN + sheet.inkIn(cell);
                default: return DOTS_SIGN + sheet.inkIn(cell);
            }
        }

        void drawIfStale() {
            if (!stale) {
                return;
            }
            sheet.wipe();
            for (int i = 0; i < size; i++) {
                if (isSeen(i)) {
                    drawSeen(i);
                }
            }
            stale = false;
        }

        private void drawSeen(int i) {
            int px = dotAcross(i);
            int py = dotUpwards(i);
            // Without a link lines and steps go from the dot to itself.
            boolean linked = isSeen(i - 1);
            int beforeX = linked ? dotAcross(i - 1) : px;
            int beforeY = linked ? dotUpwards(i - 1) : py;
            switch (mark) {
                case SPOTS:
                    sheet.spot(px, py, i);
                    break;
                case LINE:
                    sheet.line(beforeX, beforeY, px, py, i);
                    break;
                case STEPS:
                    sheet.line(beforeX, beforeY, px, beforeY, i);
                    sheet.line(px, beforeY, px, py, i);
                    break;
                case BARS:
                    sheet.bar(px, py, i);
                    break;
                default:
                    sheet.line(px, endOf(y[i] - e[i], py), px, endOf(y[i] + e[i], py), i);
                    break;
            }
        }

        private int endOf(int v, int otherwise) {
            int place = page.upwards.placeOf(v);
            return place == NONE ? otherwise : place;
        }
    }

    /** The labels in turn; those behind one that is gone are each one number less. */
    private static final class Labels {
        int size;
        final int[] column = new int[MOST_LABELS];
        final int[] row = new int[MOST_LABELS];
        final int[] length = new int[MOST_LABELS];
        final int[] series = new int[MOST_LABELS];
        final int[] point = new int[MOST_LABELS];

        void add(int atColumn, int atRow, int cells, int ofSeries, int ofPoint) {
            if (size >= MOST_LABELS) {
                return;
            }
            column[size] = atColumn;
            row[size] = atRow;
            length[size] = cells;
            series[size] = ofSeries;
            point[size] = ofPoint;
            size++;
        }

        void removeThoseAt(int ofSeries, int ofPoint) {
            int had = size;
            size = 0;
            for (int i = 0; i < had; i++) {
                if (series[i] != ofSeries || point[i] != ofPoint) {
                    add(column[i], row[i], length[i], series[i], point[i]);
                }
            }
        }

        /** The label that a cell is in; NONE. */
        int covering(int atColumn, int atRow) {
            for (int i = 0; i < size; i++) {
                if (row[i] == atRow && atColumn >= column[i] && atColumn < column[i] + length[i]) {
                    return i;
                }
            }
            return NONE;
        }
    }
}
