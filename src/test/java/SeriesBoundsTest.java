/** Promises 10 to 17 at their edges: a method for each sentence that names one. */
public final class SeriesBoundsTest {
    private static final int BAD = SignCharts.BAD, STATE = SignCharts.STATE, FULL = SignCharts.FULL;
    private static final int NO = SignCharts.NO;
    private static final int MIN = Integer.MIN_VALUE, MAX = Integer.MAX_VALUE;
    private static final int LIMIT = 1000000;

    public static void main(String[] args) {
        markLayerAndSign();
        sixSeries();
        seriesThatAreNot();
        styleOfWhat();
        styleByItsOwnBounds();
        styleTellsWhatItWas();
        xAndY();
        eOfPoints();
        twentyFourPoints();
        twentyFourGaps();
        dropToNothing();
        dropMakesRoom();
        dropTakesItsLabels();
        dropTakesAllLabels();
        pointsThatAreNot();
        aboutWhat();
        aboutGaps();
        seenAtTheEdges();
        countWhat();
        countOfEmptyAndFull();
        countRows();
        countCells();
        fiveOfWhom();
        fiveByNumber();
        Due.end();
    }

    /** One SERIES with a POINT, a GAP, a POINT that is not SEEN, and a LABEL. */
    private static Chart one() {
        return new Chart().with("series", 1, 4, 40).with("point", 0, 5, 10, 7).with("gap", 0)
            .with("point", 0, 11, 5, 0).with("label", 0, 0, 2);
    }

    private static Chart six() {
        Chart c = one();
        for (int series = 1; series < 6; series++) {
            c.with("series", series % 5, series, 40 + series);
        }
        return c;
    }

    /** A MARK (0 .. 4), a LAYER 0 .. 9, a SIGN 33 .. 126. */
    private static void markLayerAndSign() {
        for (int mark = 0; mark <= 4; mark++) {
            new Chart().due(0, "series", mark, 0, 33).due(1, "told", 0).due(mark, "style", 0, 0, 0);
        }
        for (int layer = 0; layer <= 9; layer++) {
            new Chart().due(0, "series", 0, layer, 33).due(layer, "style", 0, 1, 0);
        }
        for (int sign : new int[] {33, 34, 125, 126}) {
            new Chart().due(0, "series", 0, 0, sign).due(sign, "style", 0, 2, 33);
        }
        for (Chart c : new Chart[] {new Chart(), one()}) {
            for (int mark : new int[] {MIN, -1, 5, MAX}) {
                c.refused(BAD, "series", mark, 0, 33);
            }
            for (int layer : new int[] {MIN, -1, 10, MAX}) {
                c.refused(BAD, "series", 0, layer, 33);
            }
            for (int sign : new int[] {MIN, -33, 0, 32, 127, MAX}) {
                c.refused(BAD, "series", 0, 0, sign);
            }
        }
    }

    /** SERIES (6 at most): FULL, but BAD before it. */
    private static void sixSeries() {
        Chart c = new Chart().due(0, "told", 0);
        for (int series = 0; series < 6; series++) {
            c.due(series, "series", 4, 9, 126).due(series + 1, "told", 0);
        }
        c.refused(FULL, "series", 0, 0, 33).refused(FULL, "series", 4, 9, 126);
        c.refused(BAD, "series", 5, 0, 33).refused(BAD, "series", 0, 10, 33).refused(BAD, "series", 0, 0, 32);
        c.due(0, "point", 5, 0, 0, 0).due(BAD, "point", 6, 0, 0, 0);
    }

    /** BAD: there is no such SERIES; of none, of one, of six. */
    private static void seriesThatAreNot() {
        Chart[] charts = {new Chart(), one(), six()};
        int[] many = {0, 1, 6};
        for (int i = 0; i < charts.length; i++) {
            for (int series : new int[] {MIN, -1, many[i], 7, MAX}) {
                charts[i].refused(BAD, "style", series, 0, 0).refused(BAD, "point", series, 0, 0, 0)
                    .refused(BAD, "gap", series).refused(BAD, "drop", series)
                    .refused(NO, "about", series, 0, 0).refused(BAD, "count", series, 0)
                    .refused(NO, "five", series, 0).refused(BAD, "label", series, 0, 1);
            }
        }
        six().due(0, "style", 5, 0, 1).due(0, "point", 5, 0, 0, 0).due(1, "gap", 5).due(1, "drop", 5)
            .due(0, "about", 5, 0, 0).due(1, "count", 5, 0).due(0, "five", 5, 0).due(0, "label", 5, 0, 1);
    }

    /** MARK (0), LAYER (1), SIGN (2), and no other. */
    private static void styleOfWhat() {
        Chart c = one();
        for (int what : new int[] {MIN, -1, 3, 4, MAX}) {
            for (int v : new int[] {MIN, 0, 4, 9, 33, 126, MAX}) {
                c.refused(BAD, "style", 0, what, v);
            }
        }
    }

    /** What is as told for one of them is not so for another. */
    private static void styleByItsOwnBounds() {
        Chart c = one();
        int[][] wrong = {{-1, 5, 9, 33, 126}, {-1, 10, 33, 126}, {-1, 0, 4, 9, 32, 127}};
        int[][] right = {{0, 1, 2, 3, 4}, {0, 9}, {33, 126}};
        for (int what = 0; what < 3; what++) {
            for (int v : wrong[what]) {
                c.refused(BAD, "style", 0, what, v);
            }
            c.refused(BAD, "style", 0, what, MIN).refused(BAD, "style", 0, what, MAX);
            for (int v : right[what]) {
                one().with("style", 0, what, v).due(v, "style", 0, what, right[what][0]);
            }
        }
    }

    /** What it was, also where it becomes the same; the other two are left. */
    private static void styleTellsWhatItWas() {
        one().due(1, "style", 0, 0, 1).due(1, "style", 0, 0, 4).due(4, "style", 0, 1, 4)
            .due(4, "style", 0, 1, 9).due(40, "style", 0, 2, 40).due(40, "style", 0, 2, 33)
            .due(4, "style", 0, 0, 0).due(9, "style", 0, 1, 0).due(33, "style", 0, 2, 126)
            .due(0, "style", 0, 0, 0).due(0, "style", 0, 1, 0).due(126, "style", 0, 2, 126);
    }

    /** BAD: x, y -1000000 .. 1000000. */
    private static void xAndY() {
        Chart c = one();
        for (int v : new int[] {MIN, -LIMIT - 1, LIMIT + 1, MAX}) {
            c.refused(BAD, "point", 0, v, 0, 0).refused(BAD, "point", 0, 0, v, 0);
            c.refused(BAD, "point", 0, v, v, 0);
        }
        for (int v : new int[] {-LIMIT, -LIMIT + 1, LIMIT - 1, LIMIT}) {
            one().due(3, "point", 0, v, 0, 0).due(v, "about", 0, 3, 0).due(0, "about", 0, 3, 1);
            one().due(3, "point", 0, 0, v, 0).due(0, "about", 0, 3, 0).due(v, "about", 0, 3, 1);
        }
    }

    /** e (0 .. 1000000). */
    private static void eOfPoints() {
        Chart c = one();
        for (int e : new int[] {MIN, -LIMIT, -1, LIMIT + 1, MAX}) {
            c.refused(BAD, "point", 0, 0, 0, e);
        }
        for (int e : new int[] {0, 1, LIMIT - 1, LIMIT}) {
            one().due(3, "point", 0, 0, 0, e).due(e, "about", 0, 3, 2);
            one().due(3, "point", 0, LIMIT, -LIMIT, e).due(e, "about", 0, 3, 2);
        }
    }

    /** POINTS (24 at most): FULL, but BAD before it; other SERIES have room. */
    private static void twentyFourPoints() {
        Chart c = new Chart().with("series", 0, 0, 33).with("series", 0, 0, 34);
        for (int point = 0; point < 24; point++) {
            c.due(point, "point", 0, point, 0, 0).due(point + 1, "count", 0, 0);
        }
        c.refused(FULL, "point", 0, 0, 0, 0).refused(FULL, "gap", 0);
        c.refused(BAD, "point", 0, LIMIT + 1, 0, 0).refused(BAD, "point", 0, 0, -LIMIT - 1, 0);
        c.refused(BAD, "point", 0, 0, 0, -1).refused(BAD, "point", 2, 0, 0, 0).refused(BAD, "gap", 2);
        c.due(0, "point", 1, 0, 0, 0).due(1, "gap", 1).due(23, "about", 0, 23, 0).due(NO, "about", 0, 24, 0);
    }

    /** GAPS are among the 24. */
    private static void twentyFourGaps() {
        Chart c = new Chart().with("series", 2, 0, 33);
        for (int gap = 0; gap < 24; gap++) {
            c.due(gap, "gap", 0).due(gap + 1, "count", 0, 1);
        }
        c.refused(FULL, "gap", 0).refused(FULL, "point", 0, 0, 0, 0).refused(BAD, "gap", -1);
        c = new Chart().with("series", 2, 0, 33);
        for (int i = 0; i < 24; i += 2) {
            c.due(i, "point", 0, i, i, 0).due(i + 1, "gap", 0);
        }
        c.refused(FULL, "gap", 0).refused(FULL, "point", 0, 0, 0, 0).due(12, "count", 0, 1);
    }

    /** STATE: it has none; BAD before it. */
    private static void dropToNothing() {
        Chart c = new Chart().refused(BAD, "drop", 0).with("series", 0, 0, 33).refused(STATE, "drop", 0);
        c.refused(BAD, "drop", -1).refused(BAD, "drop", 1);
        c.with("point", 0, 1, 1, 0).with("gap", 0).due(1, "drop", 0).due(0, "drop", 0);
        c.refused(STATE, "drop", 0).due(0, "gap", 0).due(0, "drop", 0).due(STATE, "drop", 0);
        c.with("series", 0, 0, 33).with("point", 1, 1, 1, 0).refused(STATE, "drop", 0).due(0, "drop", 1);
    }

    /** How many are left, of 24; there is room again, and the number is given anew. */
    private static void dropMakesRoom() {
        Chart c = new Chart().with("series", 0, 0, 33);
        for (int i = 0; i < 24; i++) {
            c.with("point", 0, i, i, i);
        }
        c.due(FULL, "gap", 0).due(23, "drop", 0).due(NO, "about", 0, 23, 0).due(23, "gap", 0);
        c.due(NO, "about", 0, 23, 0).due(FULL, "point", 0, 0, 0, 0).due(23, "drop", 0);
        c.due(23, "point", 0, -9, -8, 7).due(-9, "about", 0, 23, 0).due(-8, "about", 0, 23, 1);
        c.due(7, "about", 0, 23, 2);
        for (int left = 23; left >= 0; left--) {
            c.due(left, "drop", 0);
        }
        c.due(STATE, "drop", 0).due(0, "point", 0, 1, 2, 3).due(1, "about", 0, 0, 0);
    }

    /** LABELS at it are gone, too (those behind are each one number less), and no others. */
    private static void dropTakesItsLabels() {
        Chart c = new Chart().with("series", 0, 0, 33).with("series", 0, 0, 34);
        c.with("point", 0, 2, 2, 0).with("point", 0, 2, 7, 0).with("point", 1, 7, 2, 0).with("point", 1, 7, 7, 0);
        // Lengths tell the LABELS from each other: 1 and 3 are at the one that goes.
        c.with("label", 0, 1, 1).with("label", 0, 0, 2).with("label", 0, 1, 3).with("label", 1, 1, 4);
        c.with("label", 1, 0, 5).due(5, "told", 1);
        c.due(1, "drop", 0).due(3, "told", 1).due(2, "labelled", 0, 2).due(4, "labelled", 1, 2);
        c.due(5, "labelled", 2, 2).due(BAD, "labelled", 3, 2);
        c.due(0, "labelled", 0, 3).due(0, "labelled", 0, 4).due(1, "labelled", 1, 3).due(1, "labelled", 1, 4);
        int column = c.labelled(2, 0);
        int row = c.labelled(2, 1);
        c.due(8194, "at", column, row).due(12, "shown", column, row);
        // A GAP that goes has no LABELS: none go with it.
        c.with("gap", 0).due(1, "drop", 0).due(3, "told", 1);
        c.due(0, "drop", 0).due(2, "told", 1).due(4, "labelled", 0, 2).due(5, "labelled", 1, 2);
        // A POINT that comes in its stead has none either.
        c.with("point", 0, 2, 2, 0).due(2, "told", 1).due(0, "drop", 0).due(2, "told", 1);
    }

    /** All 20 LABELS at one POINT go at once; those of a POINT that is no more SEEN, too. */
    private static void dropTakesAllLabels() {
        Chart c = new Chart().with("canvas", 40, 16).with("series", 0, 0, 33).with("point", 0, 5, 5, 0);
        for (int label = 0; label < 4; label++) {
            c.due(label, "label", 0, 0, 1);
        }
        for (int label = 4; label < 20; label++) {
            // The LABELS stay where they are when the POINT has another PLACE.
            c.with("scale", label % 2, 0, -label, 10).with("label", 0, 0, 1).due(label + 1, "told", 1);
        }
        c.due(FULL, "label", 0, 0, 1).with("scale", 0, 0, 900, 901).due(20, "told", 1);
        c.due(0, "drop", 0).due(0, "told", 1).due(0, "inked").due(BAD, "labelled", 0, 0);
    }

    /** BAD: there is no such POINT. */
    private static void pointsThatAreNot() {
        Chart c = one().with("series", 0, 0, 33);
        for (int point : new int[] {MIN, -1, 3, 23, 24, MAX}) {
            c.refused(NO, "about", 0, point, 0).refused(BAD, "label", 0, point, 1);
        }
        for (int point : new int[] {MIN, -1, 0, 1, MAX}) {
            c.refused(NO, "about", 1, point, 0).refused(BAD, "label", 1, point, 1);
        }
    }

    /** Of a POINT: 0 .. 4, and NO for any other. */
    private static void aboutWhat() {
        Chart c = one();
        int[] due = {5, 10, 7, 20, 31};
        for (int what = 0; what < 5; what++) {
            c.due(due[what], "about", 0, 0, what);
        }
        for (int what : new int[] {MIN, -1, 5, MAX}) {
            c.refused(NO, "about", 0, 0, what).refused(NO, "about", 0, 2, what);
        }
    }

    /** NO: a GAP. */
    private static void aboutGaps() {
        Chart c = one();
        for (int what = -1; what <= 5; what++) {
            c.due(NO, "about", 0, 1, what);
        }
        // Where a POINT was before it, and where a POINT is in its stead.
        c.with("drop", 0).with("gap", 0).due(NO, "about", 0, 2, 0).due(NO, "about", 0, 2, 3);
        c.with("drop", 0).with("drop", 0).with("point", 0, 0, 0, 0).due(0, "about", 0, 1, 0).due(0, "about", 0, 1, 4);
    }

    /** A POINT is SEEN, if x and y have PLACES (px, py); NO: it is not SEEN. */
    private static void seenAtTheEdges() {
        Chart c = new Chart().with("scale", 0, 0, -3, 7).with("scale", 1, 1, 20, 30).with("series", 0, 0, 33);
        int[][] seen = {{-3, 20, 0, 31}, {7, 30, 39, 0}, {-3, 30, 0, 0}, {7, 20, 39, 31}};
        int[][] not = {{-4, 20}, {8, 20}, {-3, 19}, {-3, 31}, {-4, 19}, {8, 31}};
        for (int[] s : seen) {
            int point = c.point(0, s[0], s[1], 0);
            c.due(s[2], "about", 0, point, 3).due(s[3], "about", 0, point, 4);
        }
        for (int[] n : not) {
            int point = c.point(0, n[0], n[1], 0);
            c.due(NO, "about", 0, point, 3).due(NO, "about", 0, point, 4).due(n[0], "about", 0, point, 0);
            c.due(n[1], "about", 0, point, 1);
        }
        c.due(4, "count", 0, 3);
        c = new Chart().with("cut", 0, 3, 7).with("series", 0, 0, 33);
        for (int x = 2; x <= 8; x++) {
            c.with("point", 0, x, 0, 0);
        }
        c.due(4, "count", 0, 3).due(20, "about", 0, 1, 3).due(NO, "about", 0, 2, 3).due(NO, "about", 0, 2, 4);
        c.due(NO, "about", 0, 4, 3).due(20, "about", 0, 5, 3);
    }

    /** BAD: what is below 0, above 4. */
    private static void countWhat() {
        Chart c = one();
        for (int what : new int[] {MIN, -1, 5, MAX}) {
            c.refused(BAD, "count", 0, what);
        }
        int[] due = {3, 1, 2, 1, 1};
        for (int what = 0; what < 5; what++) {
            c.due(due[what], "count", 0, what);
        }
    }

    private static void counts(Chart c, int... due) {
        for (int what = 0; what < 5; what++) {
            c.due(due[what], "count", 0, what);
        }
    }

    /** Of a SERIES without POINTS, with GAPS alone, with 24; of POINTS none of which is SEEN. */
    private static void countOfEmptyAndFull() {
        for (int mark = 0; mark <= 4; mark++) {
            Chart empty = new Chart().with("series", mark, 0, 33);
            counts(empty, 0, 0, 0, 0, 0);
            Chart gaps = empty.again();
            Chart points = empty.again();
            Chart unseen = empty.again();
            for (int i = 0; i < 24; i++) {
                gaps.with("gap", 0);
                points.with("point", 0, 0, 0, 0);
                unseen.with("point", 0, 11, 0, LIMIT);
            }
            counts(gaps, 24, 24, 0, 0, 0);
            counts(points, 24, 0, 1, 24, 1);
            counts(unseen, 24, 0, 1, 0, 0);
        }
    }

    /** Rows of POINTS without GAPS between: GAPS at either end, side by side, none. */
    private static void countRows() {
        String[] kinds = {"p", "pg", "gp", "gpg", "pp", "ppgpp", "pggp", "pgpgp", "gggpggg", "g", "gg"};
        int[] due = {1, 1, 1, 1, 1, 2, 2, 3, 1, 0, 0};
        for (int i = 0; i < kinds.length; i++) {
            Chart c = new Chart().with("series", 0, 0, 33);
            for (char kind : kinds[i].toCharArray()) {
                // Some are not SEEN: that does not part a row.
                c = kind == 'g' ? c.with("gap", 0) : c.with("point", 0, c.left() % 2 == 0 ? 0 : 99, 0, 0);
            }
            c.due(due[i], "count", 0, 2);
        }
        Chart most = new Chart().with("series", 0, 0, 33);
        for (int i = 0; i < 12; i++) {
            most.with("point", 0, 0, 0, 0).with("gap", 0);
        }
        most.due(12, "count", 0, 2).due(12, "count", 0, 1);
    }

    /** CELLS that it draws in: each once, also under others and under LABELS; all of a CANVAS. */
    private static void countCells() {
        Chart c = new Chart().with("canvas", 24, 16).with("scale", 0, 0, 0, 47).with("series", 3, 0, 33);
        for (int column = 0; column < 24; column++) {
            c.with("point", 0, 2 * column, 10, 0);
        }
        c.due(384, "count", 0, 4).due(384, "inked");
        c.with("series", 3, 9, 34).with("point", 1, 0, 10, 0).due(384, "count", 0, 4).due(16, "count", 1, 4);
        c = new Chart().with("series", 0, 0, 33).with("point", 0, 5, 5, 0).with("label", 0, 0, 1);
        c.with("point", 0, 6, 5, 0).due(2, "count", 0, 4).with("point", 0, 5, 5, 0).due(2, "count", 0, 4);
    }

    /** NO: there are none (no POINTS, no POINTS but GAPS), or BAD: k is 0 .. 4. */
    private static void fiveOfWhom() {
        Chart empty = new Chart().with("series", 0, 0, 33);
        Chart gaps = empty.again().with("gap", 0).with("gap", 0);
        Chart gone = empty.again().with("point", 0, 5, 5, 5).with("drop", 0);
        Chart some = one();
        for (int k = -1; k <= 5; k++) {
            empty.due(NO, "five", 0, k);
            gaps.due(NO, "five", 0, k);
            gone.due(NO, "five", 0, k);
        }
        for (int k : new int[] {MIN, -1, 5, MAX}) {
            some.refused(NO, "five", 0, k);
        }
        // 5 and 10: y alone counts, also of what is not SEEN.
        some.due(5, "five", 0, 0).due(5, "five", 0, 3).due(10, "five", 0, 4);
    }

    /** The one at k (n - 1) / 4, rounded down, for each n from 1 to 24; GAPS do not count. */
    private static void fiveByNumber() {
        for (int n = 1; n <= 24; n++) {
            Chart c = new Chart().with("series", 0, 0, 33);
            for (int i = 0; i < n; i++) {
                c.with("point", 0, 0, rank(i, n) - 5, 0);
                if (n <= 12) {
                    c.with("gap", 0);
                }
            }
            for (int k = 0; k <= 4; k++) {
                c.due(k * (n - 1) / 4 - 5, "five", 0, k);
            }
        }
        int[] limits = {LIMIT, -LIMIT, 0, LIMIT, -LIMIT};
        Chart c = new Chart().with("series", 0, 0, 33);
        for (int y : limits) {
            c.with("point", 0, 0, y, LIMIT);
        }
        c.due(-LIMIT, "five", 0, 0).due(-LIMIT, "five", 0, 1).due(0, "five", 0, 2).due(LIMIT, "five", 0, 3);
        c.due(LIMIT, "five", 0, 4);
    }

    /** All of 0 .. n - 1, out of order: the greatest, the least, the second greatest, .. */
    private static int rank(int i, int n) {
        return i % 2 == 0 ? n - 1 - i / 2 : i / 2;
    }
}
