/** Promises 23 to 26: label, labelled, legend, told. */
public final class LabelsLegendTest {
    private static final int BAD = SignCharts.BAD, STATE = SignCharts.STATE, FULL = SignCharts.FULL;
    private static final int NONE = SignCharts.NONE, NO = SignCharts.NO;
    private static final int MIN = Integer.MIN_VALUE, MAX = Integer.MAX_VALUE;

    public static void main(String[] args) {
        labelRefused();
        fourPlaces();
        edgesOfTheCanvas();
        oneBeyondTheEdge();
        notOverWhatIsDrawn();
        stayWhereTheyAre();
        fullOfLabels();
        labelled();
        legendCorners();
        legendCountsLabels();
        legendRefused();
        told();
        Due.end();
    }

    /** SPOTS in cells: x is twice the column, y four times the row from below. */
    private static Chart cells(int columns, int rows) {
        Chart c = new Chart();
        c.canvas(columns, rows);
        c.scale(0, 0, 0, 2 * columns - 1);
        c.scale(1, 0, 0, 4 * rows - 1);
        c.series(0, 0, 42);
        return c;
    }

    private static void spot(Chart c, int column, int row) {
        c.point(0, 2 * column, 4 * (c.told(3) - 1 - row), 0);
    }

    private static void labelRefused() {
        Chart c = cells(10, 5);
        spot(c, 5, 2);
        c.gap(0);
        c.point(0, 20, 0, 0);
        c.point(0, 0, 20, 0);
        String before = Picture.of(c);
        int[][] wrong = {{-1, 0, 1}, {1, 0, 1}, {0, -1, 1}, {0, 4, 1}, {0, 0, 0}, {0, 0, 11},
            {MIN, 0, 1}, {MAX, 0, 1}, {0, MIN, 1}, {0, MAX, 1}, {0, 0, MIN}, {0, 0, MAX},
            {0, 1, 0}, {0, 2, 11}};
        for (int[] w : wrong) {
            String call = "label(" + w[0] + ", " + w[1] + ", " + w[2] + ")";
            Due.refused(c, call, c.label(w[0], w[1], w[2]), BAD, before);
        }
        for (int point = 1; point <= 3; point++) {
            String call = "label(0, " + point + ", 1), not SEEN";
            Due.refused(c, call, c.label(0, point, 1), STATE, before);
        }
    }

    private static void placed(Chart c, int label, int column, int row) {
        Due.is("labelled(" + label + ", 0)", c.labelled(label, 0), column);
        Due.is("labelled(" + label + ", 1)", c.labelled(label, 1), row);
    }

    private static void fourPlaces() {
        Chart c = cells(10, 5);
        spot(c, 5, 2);
        int[][] due = {{6, 2}, {2, 2}, {5, 1}, {5, 3}};
        for (int way = 0; way < 4; way++) {
            Due.is("label(0, 0, 3), time " + way, c.label(0, 0, 3), way);
            placed(c, way, due[way][0], due[way][1]);
        }
        String before = Picture.of(c);
        Due.refused(c, "label(0, 0, 3), none is FREE", c.label(0, 0, 3), NONE, before);
        Due.refused(c, "label(0, 0, 1), none is FREE", c.label(0, 0, 1), NONE, before);
        int[] signs = {32, 32, 8193, 8193, 8193, 42, 8192, 8192, 8192, 32};
        for (int column = 0; column < 10; column++) {
            Due.is("at(" + column + ", 2)", c.at(column, 2), signs[column]);
        }
        Due.is("shown(7, 1)", c.shown(7, 1), 12);
        Due.is("shown(8, 1)", c.shown(8, 1), NONE);
        Due.is("shown(5, 3)", c.shown(5, 3), 13);
    }

    private static void edgesOfTheCanvas() {
        Chart c = cells(10, 5);
        spot(c, 5, 0);
        spot(c, 0, 4);
        spot(c, 9, 2);
        Due.is("four to the edge", c.label(0, 0, 4), 0);
        Due.is("five to the edge", c.label(0, 0, 5), 1);
        Due.is("no row above", c.label(0, 0, 4), 3);
        placed(c, 2, 5, 1);
        Due.is("nothing else", c.label(0, 0, 4), NONE);
        Due.is("right, nine", c.label(0, 1, 9), 0);
        Due.is("above, ten", c.label(0, 1, 10), 2);
        placed(c, 4, 0, 3);
        Due.is("no row below", c.label(0, 1, 1), NONE);
        Due.is("left, nine", c.label(0, 2, 9), 1);
        placed(c, 5, 0, 2);
        Due.is("above, one", c.label(0, 2, 1), 2);
        Due.is("below is taken", c.label(0, 2, 1), NONE);
        c.canvas(10, 5);
        Due.is("left, ten, above and below are beyond", c.label(0, 2, 10), NONE);
        Due.is("left", c.label(0, 2, 2), 1);
        Due.is("above, one", c.label(0, 2, 1), 2);
        Due.is("below, two", c.label(0, 2, 2), NONE);
        Due.is("below, one", c.label(0, 2, 1), 3);
        placed(c, 2, 9, 3);
    }

    private static void oneBeyondTheEdge() {
        Chart c = cells(10, 5);
        spot(c, 5, 2);
        Due.is("right, five", c.label(0, 0, 5), 1);
        placed(c, 0, 0, 2);
        c.canvas(10, 5);
        Due.is("right, left, above and below, six", c.label(0, 0, 6), NONE);
        spot(c, 4, 0);
        Due.is("right, left, six; no row above", c.label(0, 1, 6), 3);
        placed(c, 0, 4, 1);
        spot(c, 7, 4);
        Due.is("left, above, four", c.label(0, 2, 4), 1);
        Due.is("above, four", c.label(0, 2, 4), NONE);
    }

    private static void notOverWhatIsDrawn() {
        Chart c = cells(10, 5);
        spot(c, 5, 2);
        spot(c, 8, 2);
        c.series(3, 0, 42);
        c.point(1, 4, 11, 0);
        Due.is("right, two", c.label(0, 0, 2), 0);
        Due.is("BARS to the left", c.label(0, 0, 3), 2);
        placed(c, 1, 5, 1);
        Due.is("left, two", c.label(0, 0, 2), 1);
        placed(c, 2, 3, 2);
        c.canvas(10, 5);
        Due.is("right, three", c.label(0, 0, 3), 2);
        c.point(1, 10, 0, 0);
        c.point(1, 16, 7, 0);
        Due.is("below, three", c.label(0, 0, 3), 3);
        c.canvas(10, 5);
        c.point(1, 14, 15, 0);
        c.label(0, 0, 2);
        Due.is("a later SERIES is over it, but hidden", c.shown(7, 1), 1);
        Due.is("at(7, 1)", c.at(7, 1), 9608);
    }

    private static void stayWhereTheyAre() {
        Chart c = cells(10, 5);
        spot(c, 5, 2);
        c.label(0, 0, 3);
        spot(c, 7, 2);
        placed(c, 0, 6, 2);
        Due.is("at(7, 2)", c.at(7, 2), 8192);
        c.scale(0, 1, 0, 19);
        c.style(0, 0, 3);
        c.fit(1);
        placed(c, 0, 6, 2);
        Due.is("told(1)", c.told(1), 1);
        c.scale(0, 0, 900, 901);
        placed(c, 0, 6, 2);
        Due.is("inked()", c.inked(), 3);
    }

    private static void fullOfLabels() {
        Chart c = cells(40, 16);
        for (int i = 0; i < 11; i++) {
            spot(c, 20, i);
        }
        for (int i = 0; i < 20; i++) {
            Due.is("LABEL " + i, c.label(0, i / 2, 1 + i / 2), i % 2);
        }
        Due.is("told(1)", c.told(1), 20);
        String before = Picture.of(c);
        Due.refused(c, "a 21st one", c.label(0, 10, 1), FULL, before);
        Due.refused(c, "a 21st one where none is FREE", c.label(0, 0, 1), FULL, before);
        Due.refused(c, "a 21st one, BAD first", c.label(0, 10, 11), BAD, before);
        c.gap(0);
        before = Picture.of(c);
        Due.refused(c, "a 21st one, STATE first", c.label(0, 11, 1), STATE, before);
        Due.is("at(21, 0)", c.at(21, 0), 8192);
        Due.is("at(10, 9)", c.at(10, 9), 8211);
        Due.is("shown(19, 9)", c.shown(19, 9), 29);
    }

    private static void labelled() {
        Chart c = cells(10, 5);
        Due.is("labelled(0, 0) of none", c.labelled(0, 0), BAD);
        c.series(0, 0, 43);
        c.gap(1);
        c.point(1, 16, 8, 0);
        c.label(1, 1, 4);
        int[] due = {4, 2, 4, 1, 1};
        for (int what = 0; what < 5; what++) {
            Due.is("labelled(0, " + what + ")", c.labelled(0, what), due[what]);
        }
        int[][] wrong = {{-1, 0}, {1, 0}, {0, -1}, {0, 5}, {20, 0}, {MIN, 0}, {MAX, 0}, {0, MIN},
            {0, MAX}};
        for (int[] w : wrong) {
            Due.is("labelled(" + w[0] + ", " + w[1] + ")", c.labelled(w[0], w[1]), BAD);
        }
    }

    private static void legendCorners() {
        Chart c = cells(10, 5);
        Due.is("an empty one", c.legend(3, 2), 0);
        spot(c, 2, 1);
        Due.is("above left is drawn", c.legend(3, 2), 1);
        Due.is("less high", c.legend(3, 1), 0);
        Due.is("less wide", c.legend(2, 2), 0);
        spot(c, 7, 1);
        Due.is("above right, too", c.legend(3, 2), 2);
        spot(c, 2, 3);
        Due.is("below left, too", c.legend(3, 2), 3);
        spot(c, 7, 3);
        Due.is("all alike", c.legend(3, 2), 0);
        spot(c, 1, 1);
        spot(c, 8, 1);
        spot(c, 1, 3);
        Due.is("one here, two there", c.legend(3, 2), 3);
        Due.is("the whole", c.legend(10, 5), 0);
        Due.is("one CELL", c.legend(1, 1), 0);
        String before = Picture.of(c);
        c.legend(3, 2);
        Due.holds("it is only told", Picture.of(c).equals(before));
    }

    private static void legendCountsLabels() {
        Chart c = cells(10, 5);
        spot(c, 4, 0);
        c.point(0, 10, 16, 0);
        Due.is("legend(4, 1)", c.legend(4, 1), 0);
        Due.is("label(0, 0, 4)", c.label(0, 0, 4), 1);
        Due.is("LABELS above left", c.legend(4, 1), 1);
        Due.is("label(0, 1, 2)", c.label(0, 1, 2), 0);
        Due.is("LABELS above right, too", c.legend(4, 1), 2);
        c.series(0, 9, 43);
        c.point(1, 14, 16, 0);
        c.point(1, 0, 0, 0);
        c.point(1, 2, 0, 0);
        c.point(1, 18, 0, 0);
        Due.is("a CELL with both counts once", c.legend(4, 1), 3);
        c.point(1, 16, 0, 0);
        Due.is("a CELL with both counts once", c.legend(4, 1), 1);
    }

    private static void legendRefused() {
        Chart c = cells(10, 5);
        int[][] wrong = {{0, 1}, {1, 0}, {11, 1}, {1, 6}, {-1, 1}, {1, -1}, {MIN, 1}, {MAX, 1},
            {1, MIN}, {1, MAX}};
        for (int[] w : wrong) {
            Due.is("legend(" + w[0] + ", " + w[1] + ")", c.legend(w[0], w[1]), BAD);
        }
    }

    private static void told() {
        Chart c = new Chart();
        c.canvas(11, 7);
        c.scale(0, 1, -3, 55);
        c.scale(1, 0, -8, 77);
        c.cut(1, 0, 9);
        c.series(0, 0, 33);
        c.series(1, 0, 33);
        c.series(0, 0, 33);
        c.point(0, 10, 10, 0);
        c.label(0, 0, 1);
        c.label(0, 0, 1);
        int[] due = {3, 2, 11, 7, 1, 2, -3, -8, 55, 77};
        for (int what = 0; what < due.length; what++) {
            Due.is("told(" + what + ")", c.told(what), due[what]);
        }
        Due.is("told(-1)", c.told(-1), NO);
        Due.is("told(10)", c.told(10), NO);
        Due.is("told(MIN)", c.told(MIN), NO);
        Due.is("told(MAX)", c.told(MAX), NO);
    }
}
