/** Promises 23 to 26 at their edges: a method for each sentence that names one. */
public final class LabelsLegendBoundsTest {
    private static final int BAD = SignCharts.BAD, STATE = SignCharts.STATE, FULL = SignCharts.FULL;
    private static final int NONE = SignCharts.NONE, NO = SignCharts.NO;
    private static final int MIN = Integer.MIN_VALUE, MAX = Integer.MAX_VALUE;
    private static final int RIGHT = 0, LEFT = 1, ABOVE = 2, BELOW = 3;

    public static void main(String[] args) {
        lengths();
        pointsThatAreSeen();
        twentyLabels();
        fullBeforeNone();
        roomAgain();
        rightToTheEdge();
        leftToTheEdge();
        aboveToTheEdge();
        belowToTheEdge();
        inTheCorners();
        onTheLeastCanvas();
        besideWhatIsDrawn();
        onAnyLayer();
        besideLabels();
        drawnAsItIsNow();
        labelsDoNotMove();
        signsOfLabels();
        labelledWhat();
        legendSizes();
        legendCorners();
        legendOfSeveral();
        legendIsOnlyTold();
        toldWhat();
        theLastCallOfAll();
        Due.end();
    }

    /** SPOTS in cells: x is twice the column, y four times the row from below. */
    private static Chart cells(int columns, int rows) {
        return new Chart().with("canvas", columns, rows).with("scale", 0, 0, 0, 2 * columns - 1)
            .with("scale", 1, 0, 0, 4 * rows - 1).with("series", 0, 0, 42);
    }

    private static Chart spot(Chart c, int series, int column, int row) {
        return c.with("point", series, 2 * column, 4 * (c.told(3) - 1 - row), 0);
    }

    private static Chart spotAt(int column, int row) {
        return spot(cells(12, 5), 0, column, row);
    }

    private static void lies(Chart c, int label, int column, int row, int length) {
        c.due(column, "labelled", label, 0).due(row, "labelled", label, 1).due(length, "labelled", label, 2);
        for (int i = 0; i < length; i++) {
            c.due(8192 + label, "at", column + i, row);
        }
        if (column > 0) {
            Due.holds("nothing left of it", c.at(column - 1, row) != 8192 + label);
        }
        if (column + length < c.told(2)) {
            Due.holds("nothing right of it", c.at(column + length, row) != 8192 + label);
        }
    }

    /** As long as 1 .. 10 CELLS. */
    private static void lengths() {
        Chart c = spotAt(1, 2);
        for (int length : new int[] {MIN, -1, 0, 11, 12, MAX}) {
            c.refused(BAD, "label", 0, 0, length);
        }
        for (int length = 1; length <= 10; length++) {
            Chart one = spotAt(1, 2).due(RIGHT, "label", 0, 0, length);
            lies(one, 0, 2, 2, length);
        }
    }

    /** STATE: the POINT is not SEEN; BAD before it. */
    private static void pointsThatAreSeen() {
        Chart c = cells(12, 5).with("point", 0, 0, 0, 0).with("gap", 0).with("point", 0, 23, 19, 0);
        c.with("point", 0, -1, 0, 0).with("point", 0, 24, 0, 0).with("point", 0, 0, -1, 0).with("point", 0, 0, 20, 0);
        for (int point : new int[] {1, 3, 4, 5, 6}) {
            c.refused(STATE, "label", 0, point, 1).refused(STATE, "label", 0, point, 10);
            c.refused(BAD, "label", 0, point, 0).refused(BAD, "label", 0, point, 11);
        }
        c.refused(BAD, "label", 0, -1, 1).refused(BAD, "label", 0, 7, 1).refused(BAD, "label", 1, 1, 1);
        c.again().due(RIGHT, "label", 0, 0, 1);
        c.again().due(LEFT, "label", 0, 2, 1);
        // As the SCALES are now: what is SEEN no more, and what is left out.
        c.with("scale", 0, 0, 1, 24).refused(STATE, "label", 0, 0, 1).due(LEFT, "label", 0, 4, 1);
        c.with("cut", 0, 22, 23).due(LEFT, "label", 0, 2, 1);
        c = spotAt(5, 2).with("cut", 0, 9, 11).refused(STATE, "label", 0, 0, 1);
        c.with("cut", 0, 10, 12).due(RIGHT, "label", 0, 0, 1);
    }

    private static Chart twenty() {
        Chart c = cells(40, 16);
        for (int row = 0; row < 11; row++) {
            spot(c, 0, 20, row);
        }
        for (int label = 0; label < 20; label++) {
            c.with("label", 0, label / 2, 1 + label / 2);
        }
        return c;
    }

    /** LABELS (20 at most): FULL; BAD and STATE before it. */
    private static void twentyLabels() {
        Chart c = cells(40, 16);
        for (int row = 0; row < 11; row++) {
            spot(c, 0, 20, row);
        }
        for (int label = 0; label < 20; label++) {
            c.due(label, "told", 1).due(label % 2, "label", 0, label / 2, 1 + label / 2);
        }
        c.due(20, "told", 1).refused(FULL, "label", 0, 10, 1).refused(FULL, "label", 0, 10, 10);
        c.refused(BAD, "label", 0, 10, 0).refused(BAD, "label", 0, 10, 11).refused(BAD, "label", 0, 11, 1);
        c.refused(BAD, "label", 1, 0, 1).refused(BAD, "label", -1, 0, 1);
        c.with("gap", 0).with("point", 0, 80, 0, 0).refused(STATE, "label", 0, 11, 1);
        c.refused(STATE, "label", 0, 12, 10).refused(BAD, "label", 0, 12, 11);
    }

    /** The first of these is FULL, also where no place is FREE: NONE is told of places alone. */
    private static void fullBeforeNone() {
        Chart c = cells(40, 16);
        for (int point = 0; point < 5; point++) {
            spot(c, 0, 6 * point + 2, 8);
        }
        for (int label = 0; label < 20; label++) {
            c.due(label % 4, "label", 0, label / 4, 1);
            if (label == 3) {
                c.refused(NONE, "label", 0, 0, 1).refused(NONE, "label", 0, 0, 10);
            }
        }
        c.refused(FULL, "label", 0, 0, 1).refused(FULL, "label", 0, 4, 10);
    }

    /** Where LABELS are gone there is room again, up to 20. */
    private static void roomAgain() {
        Chart c = twenty().due(10, "drop", 0).due(FULL, "label", 0, 9, 1).due(9, "drop", 0).due(18, "told", 1);
        c.due(BELOW, "label", 0, 8, 5);
        spot(c, 0, 5, 12).due(RIGHT, "label", 0, 9, 10).due(20, "told", 1).due(FULL, "label", 0, 9, 1);
        lies(c, 18, 20, 9, 5);
        lies(c, 19, 6, 12, 10);
        twenty().with("canvas", 40, 16).due(RIGHT, "label", 0, 10, 1).due(1, "told", 1);
    }

    /** Right of its CELL, as far as the last column. */
    private static void rightToTheEdge() {
        lies(spotAt(1, 2).due(RIGHT, "label", 0, 0, 10), 0, 2, 2, 10);
        lies(spotAt(10, 2).due(RIGHT, "label", 0, 0, 1), 0, 11, 2, 1);
        lies(spotAt(8, 2).due(RIGHT, "label", 0, 0, 3), 0, 9, 2, 3);
        lies(spotAt(8, 2).due(LEFT, "label", 0, 0, 4), 0, 4, 2, 4);
        lies(spotAt(11, 2).due(LEFT, "label", 0, 0, 1), 0, 10, 2, 1);
    }

    /** Left of it (ending there), as far as column 0. */
    private static void leftToTheEdge() {
        lies(spotAt(10, 2).due(LEFT, "label", 0, 0, 10), 0, 0, 2, 10);
        lies(spotAt(8, 2).due(LEFT, "label", 0, 0, 8), 0, 0, 2, 8);
        // One more is beyond it, and above and below are beyond the last column.
        spotAt(8, 2).refused(NONE, "label", 0, 0, 9);
        Chart c = spotAt(0, 2).with("label", 0, 0, 1);
        lies(c.due(ABOVE, "label", 0, 0, 1), 1, 0, 1, 1);
    }

    /** In the row above, beginning in its column; row 0 has none above. */
    private static void aboveToTheEdge() {
        // A neighbour on either side takes the first two places.
        for (int length = 1; length <= 7; length++) {
            Chart c = spot(spot(spotAt(5, 1), 0, 6, 1), 0, 4, 1);
            lies(c.due(ABOVE, "label", 0, 0, length), 0, 5, 0, length);
        }
        spot(spot(spotAt(5, 1), 0, 6, 1), 0, 4, 1).refused(NONE, "label", 0, 0, 8);
        Chart top = spot(spot(spotAt(5, 0), 0, 6, 0), 0, 4, 0);
        lies(top.due(BELOW, "label", 0, 0, 2), 0, 5, 1, 2);
    }

    /** In the row below, beginning in its column; the last row has none below. */
    private static void belowToTheEdge() {
        for (int length = 1; length <= 7; length++) {
            Chart c = spot(spot(spot(spotAt(5, 3), 0, 6, 3), 0, 4, 3), 0, 5, 2);
            lies(c.due(BELOW, "label", 0, 0, length), 0, 5, 4, length);
        }
        spot(spot(spot(spotAt(5, 3), 0, 6, 3), 0, 4, 3), 0, 5, 2).refused(NONE, "label", 0, 0, 8);
        spot(spot(spot(spotAt(5, 4), 0, 6, 4), 0, 4, 4), 0, 5, 3).refused(NONE, "label", 0, 0, 1);
        spot(spot(spot(spotAt(5, 0), 0, 6, 0), 0, 4, 0), 0, 5, 1).refused(NONE, "label", 0, 0, 1);
    }

    /** On THE CANVAS: the four corners, the next place each time until none is left. */
    private static void inTheCorners() {
        lies(spotAt(0, 0).due(RIGHT, "label", 0, 0, 1).due(BELOW, "label", 0, 0, 1)
            .refused(NONE, "label", 0, 0, 1), 1, 0, 1, 1);
        lies(spotAt(11, 0).due(LEFT, "label", 0, 0, 1).due(BELOW, "label", 0, 0, 1)
            .refused(NONE, "label", 0, 0, 1), 1, 11, 1, 1);
        lies(spotAt(0, 4).due(RIGHT, "label", 0, 0, 1).due(ABOVE, "label", 0, 0, 1)
            .refused(NONE, "label", 0, 0, 1), 1, 0, 3, 1);
        lies(spotAt(11, 4).due(LEFT, "label", 0, 0, 1).due(ABOVE, "label", 0, 0, 1)
            .refused(NONE, "label", 0, 0, 1), 1, 11, 3, 1);
    }

    /** 4 by 2 CELLS: a LABEL of 4 has room above or below column 0 alone. */
    private static void onTheLeastCanvas() {
        lies(spot(cells(4, 2), 0, 0, 1).due(ABOVE, "label", 0, 0, 4), 0, 0, 0, 4);
        lies(spot(cells(4, 2), 0, 0, 0).due(BELOW, "label", 0, 0, 4), 0, 0, 1, 4);
        spot(cells(4, 2), 0, 1, 1).refused(NONE, "label", 0, 0, 4).due(ABOVE, "label", 0, 0, 3);
        spot(cells(4, 2), 0, 0, 0).refused(NONE, "label", 0, 0, 5).refused(NONE, "label", 0, 0, 10);
    }

    /** FREE: no SERIES DRAWN there, up to the CELL before it. */
    private static void besideWhatIsDrawn() {
        spot(spotAt(3, 2), 0, 7, 2).due(RIGHT, "label", 0, 0, 3);
        spot(spotAt(3, 2), 0, 7, 2).due(ABOVE, "label", 0, 0, 4);
        Chart c = spot(spot(spotAt(8, 2), 0, 4, 2), 0, 9, 2);
        c.again().due(LEFT, "label", 0, 0, 3);
        c.again().due(ABOVE, "label", 0, 0, 4).due(LEFT, "label", 0, 0, 3);
        c.refused(NONE, "label", 0, 0, 5);
        // The last CELL of the row above, and the one beyond it.
        spot(spot(spot(spotAt(3, 2), 0, 4, 2), 0, 2, 2), 0, 6, 1).due(ABOVE, "label", 0, 0, 3);
        spot(spot(spot(spotAt(3, 2), 0, 4, 2), 0, 2, 2), 0, 6, 1).due(BELOW, "label", 0, 0, 4);
    }

    /** What is DRAWN counts on any LAYER and by any MARK. */
    private static void onAnyLayer() {
        for (int mark = 0; mark <= 4; mark++) {
            for (int layer : new int[] {0, 9}) {
                Chart c = spotAt(3, 2).with("style", 0, 1, 5).with("series", mark, layer, 33);
                spot(c, 1, 4, 2).due(LEFT, "label", 0, 0, 1);
            }
        }
    }

    /** FREE: no LABEL in it, up to the CELL beside it. */
    private static void besideLabels() {
        Chart c = spot(spotAt(1, 2), 0, 8, 2);
        lies(c.due(RIGHT, "label", 0, 0, 3), 0, 2, 2, 3);
        c.again().due(RIGHT, "label", 0, 1, 3).due(LEFT, "label", 0, 1, 3).due(ABOVE, "label", 0, 1, 3);
        lies(c.again().with("label", 0, 1, 3).with("label", 0, 1, 3), 2, 5, 2, 3);
        // Four to the left would touch the last CELL of the first LABEL.
        c.again().due(RIGHT, "label", 0, 1, 3).due(ABOVE, "label", 0, 1, 4);
    }

    /** No SERIES DRAWN there as it is now: not as it was. */
    private static void drawnAsItIsNow() {
        Chart c = spot(spotAt(3, 2), 0, 5, 2).due(42, "at", 5, 2);
        c.again().due(RIGHT, "label", 0, 0, 1);
        c.again().due(LEFT, "label", 0, 0, 2);
        c.again().with("drop", 0).due(RIGHT, "label", 0, 0, 2);
        c.again().with("style", 0, 0, 1).due(LEFT, "label", 0, 0, 1);
        // 6 of 0 .. 9 is in column 7, and 10 is no more SEEN.
        lies(c.again().with("scale", 0, 0, 0, 9).due(RIGHT, "label", 0, 0, 2), 0, 8, 2, 2);
    }

    /** What is DRAWN later does not move them; they are over all. */
    private static void labelsDoNotMove() {
        Chart c = spotAt(3, 2).with("label", 0, 0, 4).with("label", 0, 0, 2);
        for (int column = 4; column < 8; column++) {
            spot(c, 0, column, 2);
        }
        c.with("series", 3, 9, 33).with("point", 1, 8, 19, 0).with("style", 0, 1, 9);
        lies(c, 0, 4, 2, 4);
        lies(c, 1, 1, 2, 2);
        c.with("scale", 0, 1, 0, 23).with("scale", 1, 0, 500, 501);
        lies(c, 0, 4, 2, 4);
        c.due(0, "count", 0, 3).due(6, "inked").due(2, "told", 1).due(10, "shown", 4, 2).due(11, "shown", 1, 2);
        c.with("fit", 0).with("fit", 1).with("cut", 0, 7, 8).with("gap", 0).with("drop", 0);
        lies(c, 1, 1, 2, 2);
    }

    /** With signs 8192 + its number, shown by 10 + its number: the first and the last. */
    private static void signsOfLabels() {
        Chart c = twenty();
        c.due(8192, "at", 21, 0).due(10, "shown", 21, 0).due(8211, "at", 10, 9).due(29, "shown", 10, 9);
        c.due(8211, "at", 19, 9).due(0, "shown", 20, 9).due(NONE, "shown", 9, 9).due(32, "at", 9, 9);
    }

    /** Of a LABEL: 0 .. 4. BAD: no such LABEL, or any other. */
    private static void labelledWhat() {
        Chart none = new Chart();
        for (int label : new int[] {MIN, -1, 0, 1, 19, 20, MAX}) {
            none.refused(BAD, "labelled", label, 0);
        }
        Chart c = twenty();
        int[][] due = {{21, 0, 1, 0, 0}, {10, 9, 10, 0, 9}};
        for (int what = 0; what < 5; what++) {
            c.due(due[0][what], "labelled", 0, what).due(due[1][what], "labelled", 19, what);
        }
        for (int what : new int[] {MIN, -1, 5, MAX}) {
            c.refused(BAD, "labelled", 0, what).refused(BAD, "labelled", 19, what);
        }
        for (int label : new int[] {MIN, -1, 20, MAX}) {
            c.refused(BAD, "labelled", label, 0).refused(BAD, "labelled", label, 4);
        }
        spotAt(5, 2).with("label", 0, 0, 1).due(6, "labelled", 0, 0).refused(BAD, "labelled", 1, 0);
    }

    /** BAD: w, h (1 .. as THE CANVAS has). */
    private static void legendSizes() {
        for (int[] size : new int[][] {{4, 2}, {20, 8}, {40, 16}}) {
            Chart c = new Chart().with("canvas", size[0], size[1]);
            c.due(0, "legend", 1, 1).due(0, "legend", size[0], 1).due(0, "legend", 1, size[1]);
            c.due(0, "legend", size[0], size[1]).due(BAD, "legend", size[0] + 1, size[1] + 1);
            for (int w : new int[] {MIN, -1, 0, size[0] + 1, MAX}) {
                c.due(BAD, "legend", w, 1).due(BAD, "legend", w, size[1]);
            }
            for (int h : new int[] {MIN, -1, 0, size[1] + 1, MAX}) {
                c.due(BAD, "legend", 1, h).due(BAD, "legend", size[0], h);
            }
        }
    }

    /** 0 above left, 1 above right, 2 below left, 3 below right, where the least are DRAWN or in LABELS. */
    private static void legendCorners() {
        int[][] inner = {{2, 1}, {9, 1}, {2, 3}, {9, 3}};
        for (int free = 0; free < 4; free++) {
            Chart c = cells(12, 5);
            for (int corner = 0; corner < 4; corner++) {
                if (corner != free) {
                    spot(c, 0, inner[corner][0], inner[corner][1]);
                }
            }
            // 3 by 2 reaches these CELLS, 2 by 2 and 3 by 1 do not.
            c.due(free, "legend", 3, 2).due(0, "legend", 2, 2).due(0, "legend", 3, 1);
        }
        // A LABEL counts as what is DRAWN does, and a CELL with both once.
        Chart c = spotAt(2, 0).with("label", 0, 0, 1).due(2, "legend", 12, 1).due(1, "legend", 4, 1);
        spot(spot(c, 0, 3, 0), 0, 0, 4).due(8192, "at", 3, 0);
        c.due(2, "legend", 12, 1);
        spot(c, 0, 1, 4).due(0, "legend", 12, 1);
    }

    /** Of several the first: of two, of three, of four that are alike. */
    private static void legendOfSeveral() {
        Chart c = cells(12, 5).due(0, "legend", 3, 2);
        spot(c, 0, 0, 0).due(1, "legend", 3, 2);
        spot(c, 0, 11, 0).due(2, "legend", 3, 2);
        spot(c, 0, 0, 4).due(3, "legend", 3, 2);
        spot(c, 0, 11, 4).due(0, "legend", 3, 2);
        spot(c, 0, 1, 0).due(1, "legend", 3, 2);
        spot(c, 0, 10, 0).due(2, "legend", 3, 2);
        // As wide or as high as THE CANVAS two corners are one.
        c.due(2, "legend", 12, 2).due(0, "legend", 3, 5).due(0, "legend", 12, 5);
        spot(c, 0, 1, 4).due(3, "legend", 3, 2).due(1, "legend", 3, 5);
    }

    /** It is only told: nothing is covered by it. */
    private static void legendIsOnlyTold() {
        spotAt(5, 2).with("label", 0, 0, 2).refused(0, "legend", 12, 5).refused(0, "legend", 3, 2)
            .refused(BAD, "legend", 13, 1);
        spotAt(1, 0).with("legend", 12, 5).due(RIGHT, "label", 0, 0, 10).due(2, "legend", 12, 1);
    }

    /** 0 .. 9, and NO for any other. */
    private static void toldWhat() {
        Chart c = twenty().with("scale", 0, 1, -1000000, 1000000).with("scale", 1, 0, -7, 8).with("cut", 1, 0, 1);
        int[] due = {1, 20, 40, 16, 1, 2, -1000000, -7, 1000000, 8};
        for (int what = 0; what < 10; what++) {
            c.due(due[what], "told", what);
        }
        for (int what : new int[] {MIN, -2, -1, 10, 11, MAX}) {
            c.refused(NO, "told", what);
            new Chart().due(NO, "told", what);
        }
    }

    /** An object is used for at most 512 calls: the 512th is answered as promised, too. */
    private static void theLastCallOfAll() {
        Chart c = spotAt(5, 2);
        while (c.left() > 3) {
            c.with("label", 0, 0, 1).with("canvas", 12, 5);
        }
        while (c.left() > 1) {
            c.with("inked");
        }
        c.due(RIGHT, "label", 0, 0, 6);
        Due.is("calls that are left", c.left(), 0);
    }
}
