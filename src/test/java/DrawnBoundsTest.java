/** Promises 18 to 22, and what each MARK draws, at their edges: a method for each sentence. */
public final class DrawnBoundsTest {
    private static final int BAD = SignCharts.BAD, NONE = SignCharts.NONE;
    private static final int MIN = Integer.MIN_VALUE, MAX = Integer.MAX_VALUE;
    private static final int LIMIT = 1000000;
    private static final int SPOTS = 0, LINE = 1, STEPS = 2, BARS = 3, RANGES = 4;
    private static final int DOTS = 10240;

    public static void main(String[] args) {
        cellsOfTheCanvas();
        cornersOfTheCanvas();
        blankCells();
        firstAndLastValueAreDrawn();
        spotsInOneCell();
        linkToTheOneBefore();
        linkNotOverOthers();
        linkNotToAnotherSeries();
        lineOfOneDot();
        lineBothEnds();
        lineHalves();
        lineOverTheWholeCanvas();
        stepsOfOneDot();
        stepsBothEnds();
        barsLeastAndMost();
        barsOfOneColumn();
        rangesOfOneDot();
        rangesToTheEdges();
        rangesAcrossCuts();
        allEightDots();
        oneSignOfOneSeries();
        layersInTurn();
        hitsOfNone();
        hitsAreTold();
        hitOnceByOnePoint();
        hitsOfTheLastPair();
        inkedNoneAndAll();
        digestOfLeastAndGreatest();
        Due.end();
    }

    /** A chart whose values are its dots: 4 columns, 2 rows; 0 .. 7 both ways. */
    private static Chart dots(int mark) {
        return new Chart().with("canvas", 4, 2).with("scale", 0, 0, 0, 7).with("scale", 1, 0, 0, 7)
            .with("series", mark, 5, 42);
    }

    /** What is drawn where: rows from above, from the left. */
    private static void shows(Chart c, int... signs) {
        for (int i = 0; i < 8; i++) {
            c.due(signs[i], "at", i % 4, i / 4);
        }
    }

    /** BAD: there is no such CELL. */
    private static void cellsOfTheCanvas() {
        for (int[] size : new int[][] {{4, 2}, {20, 8}, {40, 16}, {4, 16}, {40, 2}}) {
            Chart c = new Chart().with("canvas", size[0], size[1]);
            for (int column : new int[] {MIN, -1, size[0], MAX}) {
                c.due(BAD, "at", column, 0).due(BAD, "shown", column, 0).due(BAD, "hit", column, 0, 0);
            }
            for (int row : new int[] {MIN, -1, size[1], MAX}) {
                c.due(BAD, "at", 0, row).due(BAD, "shown", 0, row).due(BAD, "hit", 0, row, 0);
            }
            c.due(BAD, "at", -1, 1).due(BAD, "at", size[0], size[1]).due(BAD, "at", size[0], -1);
            c.due(32, "at", size[0] - 1, size[1] - 1).due(NONE, "shown", size[0] - 1, size[1] - 1);
            c.due(NONE, "hit", size[0] - 1, size[1] - 1, 0).due(32, "at", 0, 0);
        }
    }

    /** DOT (x, y) is in the CELL of column x / 2, row ROWS - 1 - y / 4; row 0 is the top one. */
    private static void cornersOfTheCanvas() {
        for (int[] size : new int[][] {{4, 2}, {20, 8}, {40, 16}, {4, 16}, {40, 2}}) {
            int right = size[0] - 1;
            int below = size[1] - 1;
            Chart c = new Chart().with("canvas", size[0], size[1]).with("series", LINE, 0, 33);
            c.with("point", 0, 0, 0, 0).with("gap", 0).with("point", 0, 10, 0, 0).with("gap", 0);
            c.with("point", 0, 0, 10, 0).with("gap", 0).with("point", 0, 10, 10, 0);
            c.due(DOTS + 64, "at", 0, below).due(DOTS + 128, "at", right, below);
            c.due(DOTS + 1, "at", 0, 0).due(DOTS + 8, "at", right, 0).due(4, "inked");
        }
    }

    /** Else 32: of no SERIES, no POINTS, no POINTS but GAPS, none SEEN, after the last one went. */
    private static void blankCells() {
        for (int mark = SPOTS; mark <= RANGES; mark++) {
            Chart c = dots(mark);
            long blank = new Chart().with("canvas", 4, 2).digest();
            c.due(0, "inked").due(blank, "digest");
            c.with("gap", 0).with("gap", 0).due(0, "inked").due(blank, "digest");
            c.with("point", 0, 8, 3, LIMIT).with("point", 0, 3, -1, 1).due(0, "inked").due(blank, "digest");
            c.with("point", 0, 3, 3, 0).due(1, "inked").with("drop", 0).due(0, "inked");
            c.due(blank, "digest").due(NONE, "shown", 1, 1).due(NONE, "hit", 1, 1, 0);
        }
    }

    /** Drawn are POINTS that are SEEN: at LOW, at HIGH, not beyond, on either SCALE. */
    private static void firstAndLastValueAreDrawn() {
        for (int mark = SPOTS; mark <= RANGES; mark++) {
            for (int v : new int[] {0, 7}) {
                dots(mark).with("point", 0, v, 0, 0).due(1, "inked").due(0, "shown", v / 2, 1);
                dots(mark).with("point", 0, 0, v, 0).due(0, "shown", 0, 1 - v / 4).due(0, "hit", 0, 1 - v / 4, 0);
            }
            for (int v : new int[] {-LIMIT, -1, 8, LIMIT}) {
                dots(mark).with("point", 0, v, 0, 0).due(0, "inked").due(0, "count", 0, 3);
                dots(mark).with("point", 0, 0, v, 0).due(0, "inked").due(0, "count", 0, 3);
            }
        }
    }

    /** SPOTS: SIGN in its CELL, the least and the greatest, whatever DOT of it. */
    private static void spotsInOneCell() {
        for (int sign : new int[] {33, 126}) {
            Chart c = dots(SPOTS).with("style", 0, 2, sign);
            c.with("point", 0, 2, 4, 0).with("point", 0, 3, 7, 5).with("point", 0, 2, 7, LIMIT);
            shows(c, 32, sign, 32, 32, 32, 32, 32, 32);
        }
    }

    /** A LINK: the POINT right before it is SEEN, too; the first one has none. */
    private static void linkToTheOneBefore() {
        for (int mark : new int[] {LINE, STEPS}) {
            shows(dots(mark).with("point", 0, 6, 0, 0), 32, 32, 32, 32, 32, 32, 32, DOTS + 64);
            shows(dots(mark).with("point", 0, 2, 0, 0).with("point", 0, 6, 0, 0),
                32, 32, 32, 32, 32, DOTS + 192, DOTS + 192, DOTS + 64);
        }
    }

    /** GAPS are POINTS that are not SEEN, and so is one beyond a SCALE: no LINK to them, or over them. */
    private static void linkNotOverOthers() {
        for (int mark : new int[] {LINE, STEPS}) {
            int[][] unseen = {{8, 0}, {-1, 0}, {4, 8}, {4, -1}};
            for (int[] u : unseen) {
                shows(dots(mark).with("point", 0, 2, 0, 0).with("point", 0, u[0], u[1], 0).with("point", 0, 6, 0, 0),
                    32, 32, 32, 32, 32, DOTS + 64, 32, DOTS + 64);
            }
            Chart c = dots(mark).with("point", 0, 2, 0, 0).with("gap", 0).with("point", 0, 6, 0, 0);
            shows(c, 32, 32, 32, 32, 32, DOTS + 64, 32, DOTS + 64);
            // Without the GAP they are LINKED.
            c.with("drop", 0).with("drop", 0).with("point", 0, 6, 0, 0).due(DOTS + 192, "at", 2, 1);
            // What is left out of a SCALE is not SEEN either.
            c = dots(mark).with("cut", 0, 3, 5).with("point", 0, 0, 0, 0).with("point", 0, 4, 0, 0);
            c.with("point", 0, 7, 0, 0);
            shows(c, 32, 32, 32, 32, DOTS + 64, 32, 32, DOTS + 128);
        }
    }

    private static void linkNotToAnotherSeries() {
        for (int mark : new int[] {LINE, STEPS}) {
            Chart c = dots(mark).with("series", mark, 5, 42).with("point", 0, 0, 0, 0).with("point", 1, 6, 0, 0);
            shows(c, 32, 32, 32, 32, DOTS + 64, 32, 32, DOTS + 64);
        }
    }

    /** n 0: the one DOT. */
    private static void lineOfOneDot() {
        Chart c = dots(LINE).with("point", 0, 7, 7, 0).with("point", 0, 7, 7, 0);
        shows(c, 32, 32, 32, DOTS + 8, 32, 32, 32, 32);
        c.due(1, "hit", 3, 0, 0).due(0, "hit", 3, 0, 1).due(NONE, "hit", 3, 0, 2);
        // Other values, but one PLACE.
        c = new Chart().with("scale", 0, 0, 0, 1000).with("scale", 1, 0, 0, 1000).with("series", LINE, 0, 33);
        c.with("point", 0, 0, 0, 0).with("point", 0, 1, 1, 0).due(1, "inked").due(DOTS + 64, "at", 0, 7);
    }

    /** For k = 0 .. n: both ends are among the DOTS of this POINT; n being the greater of both sizes. */
    private static void lineBothEnds() {
        Chart c = dots(LINE).with("point", 0, 1, 0, 0).with("point", 0, 2, 0, 0);
        // The DOT before is in another CELL, and belongs to both.
        c.due(1, "hit", 0, 1, 0).due(0, "hit", 0, 1, 1).due(NONE, "hit", 0, 1, 2);
        c.due(1, "hit", 1, 1, 0).due(NONE, "hit", 1, 1, 1);
        shows(c, 32, 32, 32, 32, DOTS + 128, DOTS + 64, 32, 32);
        shows(dots(LINE).with("point", 0, 0, 7, 0).with("point", 0, 0, 0, 0),
            DOTS + 71, 32, 32, 32, DOTS + 71, 32, 32, 32);
        shows(dots(LINE).with("point", 0, 7, 7, 0).with("point", 0, 0, 7, 0),
            DOTS + 9, DOTS + 9, DOTS + 9, DOTS + 9, 32, 32, 32, 32);
        shows(dots(LINE).with("point", 0, 0, 0, 0).with("point", 0, 7, 7, 0),
            32, 32, DOTS + 64 + 32, DOTS + 2 + 8, DOTS + 64 + 32, DOTS + 2 + 8, 32, 32);
        shows(dots(LINE).with("point", 0, 7, 0, 0).with("point", 0, 0, 7, 0),
            DOTS + 1 + 16, DOTS + 4 + 128, 32, 32, 32, 32, DOTS + 1 + 16, DOTS + 4 + 128);
    }

    /** (2 k (now - before) + n) / 2 n, rounded down: a half goes up and to the right, from either end. */
    private static void lineHalves() {
        // n 2, by 1: 0, a half, 1.
        shows(dots(LINE).with("point", 0, 0, 0, 0).with("point", 0, 2, 1, 0),
            32, 32, 32, 32, DOTS + 64 + 32, DOTS + 4, 32, 32);
        shows(dots(LINE).with("point", 0, 2, 1, 0).with("point", 0, 0, 0, 0),
            32, 32, 32, 32, DOTS + 64 + 32, DOTS + 4, 32, 32);
        shows(dots(LINE).with("point", 0, 0, 1, 0).with("point", 0, 2, 0, 0),
            32, 32, 32, 32, DOTS + 4 + 32, DOTS + 64, 32, 32);
        shows(dots(LINE).with("point", 0, 1, 0, 0).with("point", 0, 0, 2, 0),
            32, 32, 32, 32, DOTS + 128 + 32 + 2, 32, 32, 32);
        shows(dots(LINE).with("point", 0, 0, 0, 0).with("point", 0, 1, 2, 0),
            32, 32, 32, 32, DOTS + 64 + 32 + 16, 32, 32, 32);
    }

    private static void lineOverTheWholeCanvas() {
        Chart c = new Chart().with("canvas", 40, 16).with("series", LINE, 0, 33);
        c.with("point", 0, 0, 0, 0).with("point", 0, 10, 0, 0).due(40, "inked").due(40, "count", 0, 4);
        for (int column = 0; column < 40; column++) {
            c.due(DOTS + 192, "at", column, 15);
        }
        c.with("point", 0, 10, 10, 0).due(55, "inked").due(DOTS + 184, "at", 39, 0).due(DOTS + 248, "at", 39, 15);
    }

    /** STEPS: without a LINK its DOT; by a LINK to the same PLACE the one DOT. */
    private static void stepsOfOneDot() {
        Chart c = dots(STEPS).with("point", 0, 5, 5, 0);
        shows(c, 32, 32, DOTS + 32, 32, 32, 32, 32, 32);
        c.with("point", 0, 5, 5, 0);
        shows(c, 32, 32, DOTS + 32, 32, 32, 32, 32, 32);
        c.due(1, "hit", 2, 0, 0).due(0, "hit", 2, 0, 1).due(NONE, "hit", 2, 0, 2);
    }

    /** Both ends too: the corner, the one before, its own; back and down as well. */
    private static void stepsBothEnds() {
        Chart c = dots(STEPS).with("point", 0, 0, 0, 0).with("point", 0, 7, 7, 0);
        shows(c, 32, 32, 32, DOTS + 184, DOTS + 192, DOTS + 192, DOTS + 192, DOTS + 64 + 184);
        c.due(1, "hit", 0, 1, 0).due(0, "hit", 0, 1, 1);
        c = dots(STEPS).with("point", 0, 7, 7, 0).with("point", 0, 0, 0, 0);
        shows(c, DOTS + 71 + 8, DOTS + 9, DOTS + 9, DOTS + 9, DOTS + 71, 32, 32, 32);
        shows(dots(STEPS).with("point", 0, 0, 7, 0).with("point", 0, 0, 0, 0),
            DOTS + 71, 32, 32, 32, DOTS + 71, 32, 32, 32);
        shows(dots(STEPS).with("point", 0, 7, 0, 0).with("point", 0, 0, 0, 0),
            32, 32, 32, 32, DOTS + 192, DOTS + 192, DOTS + 192, DOTS + 192);
        // By one DOT each way: the one before, the corner, its own.
        shows(dots(STEPS).with("point", 0, 1, 3, 0).with("point", 0, 2, 4, 0),
            32, DOTS + 64, 32, 32, DOTS + 8, DOTS + 1, 32, 32);
    }

    /** 2 (py + 1) eighths, eight to a CELL: the sign 9600 + e, e 1 .. 8. */
    private static void barsLeastAndMost() {
        for (int rows : new int[] {2, 16}) {
            Chart c = new Chart().with("canvas", 4, rows).with("scale", 1, 0, 0, 4 * rows - 1);
            c.with("scale", 0, 0, 0, 7).with("series", BARS, 0, 33).with("point", 0, 0, 0, LIMIT);
            c.due(9602, "at", 0, rows - 1).due(32, "at", 0, rows - 2).due(1, "inked");
            c.with("point", 0, 3, 3, 0).due(9608, "at", 1, rows - 1).due(32, "at", 1, rows - 2);
            c.with("point", 0, 5, 4, 0).due(9608, "at", 2, rows - 1).due(9602, "at", 2, rows - 2);
            c.with("point", 0, 7, 4 * rows - 1, 0).due(3 + 1 + rows, "inked");
            for (int row = 0; row < rows; row++) {
                c.due(9608, "at", 3, row);
            }
            c.with("point", 0, 6, 4 * rows - 2, 0).due(9608, "at", 3, 0);
            c.with("drop", 0).with("drop", 0).with("point", 0, 6, 4 * rows - 2, 0).due(9606, "at", 3, 0);
        }
    }

    /** Of BARS the most eighths, whichever comes first; both are HITS as far as they reach. */
    private static void barsOfOneColumn() {
        for (int first : new int[] {0, 5}) {
            Chart c = dots(BARS).with("point", 0, 2, first, 0).with("point", 0, 3, 5 - first, 0);
            shows(c, 32, 9604, 32, 32, 32, 9608, 32, 32);
            c.due(1, "hit", 1, 1, 0).due(0, "hit", 1, 1, 1).due(NONE, "hit", 1, 1, 2);
            c.due(first == 5 ? 0 : 1, "hit", 1, 0, 0).due(NONE, "hit", 1, 0, 1);
        }
        Chart c = dots(BARS).with("point", 0, 2, 1, 0).with("point", 0, 3, 2, 0);
        shows(c, 32, 32, 32, 32, 32, 9606, 32, 32);
    }

    /** RANGES: of e 0 one DOT; so it is where both ends have no PLACE. */
    private static void rangesOfOneDot() {
        for (int e : new int[] {0, 8, LIMIT}) {
            shows(dots(RANGES).with("point", 0, 4, 7, e), 32, 32, DOTS + 1, 32, 32, 32, 32, 32);
            shows(dots(RANGES).with("point", 0, 3, 0, e), 32, 32, 32, 32, 32, DOTS + 128, 32, 32);
        }
    }

    /** An end at LOW, at HIGH has a PLACE; one beyond has none, and is py. */
    private static void rangesToTheEdges() {
        shows(dots(RANGES).with("point", 0, 0, 3, 3), DOTS + 64 + 4 + 2, 32, 32, 32, DOTS + 71, 32, 32, 32);
        shows(dots(RANGES).with("point", 0, 0, 3, 4), DOTS + 71, 32, 32, 32, DOTS + 1, 32, 32, 32);
        shows(dots(RANGES).with("point", 0, 0, 4, 3), DOTS + 71, 32, 32, 32, DOTS + 1 + 2 + 4, 32, 32, 32);
        shows(dots(RANGES).with("point", 0, 0, 4, 4), DOTS + 64, 32, 32, 32, DOTS + 71, 32, 32, 32);
        shows(dots(RANGES).with("point", 0, 0, 7, 7), DOTS + 71, 32, 32, 32, DOTS + 71, 32, 32, 32);
        shows(dots(RANGES).with("point", 0, 0, 0, 7), DOTS + 71, 32, 32, 32, DOTS + 71, 32, 32, 32);
        // Beyond what a SCALE can have, and at it.
        Chart c = dots(RANGES).with("scale", 1, 0, -LIMIT, LIMIT);
        c.with("point", 0, 0, -LIMIT, LIMIT).with("point", 0, 2, LIMIT, LIMIT).with("point", 0, 4, 0, LIMIT);
        shows(c, DOTS + 64, DOTS + 71, DOTS + 71, 32, DOTS + 71, 32, DOTS + 71, 32);
        // REVERSED: 0 is above.
        c = dots(RANGES).with("scale", 1, 1, 0, 7).with("point", 0, 0, 3, 3).with("point", 0, 2, 3, 4);
        shows(c, DOTS + 71, DOTS + 64, 32, 32, DOTS + 1 + 2 + 4, DOTS + 71, 32, 32);
    }

    /** An end at FROM, at TO has a PLACE, between them none. */
    private static void rangesAcrossCuts() {
        // Values 0 .. 3 and 6 .. 10 are DOTS 0 .. 3 and 3 .. 7.
        Chart c = dots(RANGES).with("scale", 1, 0, 0, 10).with("cut", 1, 3, 6);
        c.with("point", 0, 0, 7, 1).with("point", 0, 2, 7, 2).with("point", 0, 4, 7, 3).with("point", 0, 6, 7, 4);
        // 6 .. 8; 5 has none, 7 .. 9; 4 has none, 7 .. 10; 3, and 11 has none: 3 .. 7.
        shows(c, DOTS + 64 + 4, DOTS + 64 + 4 + 2, DOTS + 71, DOTS + 64, DOTS + 1, 32, 32, DOTS + 1);
    }

    /** DOTS of one SERIES in a CELL are one sign: from each of the eight alone to 10495. */
    private static void allEightDots() {
        int[] bits = {64, 4, 2, 1, 128, 32, 16, 8};
        Chart c = dots(LINE);
        int sign = DOTS;
        for (int i = 0; i < 8; i++) {
            c.with("point", 0, 2 + i / 4, i % 4, 0).with("gap", 0);
            sign += bits[i];
            c.due(sign, "at", 1, 1).due(1, "inked");
        }
        c.due(10495, "at", 1, 1);
    }

    /** Of a SERIES that sign that it has there when all of its POINTS are done; of two, the latest alone. */
    private static void oneSignOfOneSeries() {
        Chart c = dots(LINE).with("series", RANGES, 5, 42);
        c.with("point", 0, 0, 0, 0).with("point", 1, 1, 3, 0).due(DOTS + 8, "at", 0, 1).due(1, "shown", 0, 1);
        c.with("style", 0, 1, 6).due(DOTS + 64, "at", 0, 1).due(0, "shown", 0, 1);
        c.with("gap", 0).with("point", 0, 0, 3, 0).due(DOTS + 65, "at", 0, 1);
    }

    /** DRAWN are all SERIES by LAYERS, of one LAYER by numbers: LAYERS 0 and 9, six of one LAYER. */
    private static void layersInTurn() {
        Chart c = new Chart();
        for (int series = 0; series < 6; series++) {
            c.with("series", SPOTS, 0, 65 + series).with("point", series, 0, 0, 0);
            c.due(series, "shown", 0, 7).due(65 + series, "at", 0, 7).due(100 * series, "hit", 0, 7, 0);
        }
        c.with("style", 0, 1, 9).due(0, "shown", 0, 7).with("style", 3, 1, 9).due(3, "shown", 0, 7);
        c.with("style", 3, 1, 8).due(0, "shown", 0, 7);
        // By LAYERS 9, 8, then 0 by numbers: 0 3 5 4 2 1.
        int[] due = {0, 300, 500, 400, 200, 100, NONE};
        for (int k = 0; k < due.length; k++) {
            c.due(due[k], "hit", 0, 7, k);
        }
        c.with("style", 5, 1, 9).due(5, "shown", 0, 7).with("style", 5, 1, 0).due(0, "shown", 0, 7);
    }

    /** NONE: of a CELL without HITS; a LABEL is none. */
    private static void hitsOfNone() {
        Chart c = dots(SPOTS).due(NONE, "hit", 0, 0, 0).due(NONE, "hit", 0, 0, MAX);
        c.with("point", 0, 0, 0, 0).with("label", 0, 0, 2).due(10, "shown", 1, 1).due(NONE, "hit", 1, 1, 0);
        c.due(NONE, "hit", 3, 0, 0).due(0, "hit", 0, 1, 0);
    }

    /** BAD: k is below 0, too; NONE: k is the number of HITS, or more. */
    private static void hitsAreTold() {
        Chart c = dots(SPOTS).with("point", 0, 0, 0, 0).with("point", 0, 1, 1, 0);
        for (int k : new int[] {MIN, -2, -1}) {
            c.refused(BAD, "hit", 0, 1, k).refused(BAD, "hit", 3, 0, k);
        }
        c.due(1, "hit", 0, 1, 0).due(0, "hit", 0, 1, 1);
        for (int k : new int[] {2, 3, 143, 144, MAX - 1, MAX}) {
            c.due(NONE, "hit", 0, 1, k);
        }
        c.refused(BAD, "hit", 4, 0, 0).refused(BAD, "hit", 0, 2, MAX).refused(BAD, "hit", -1, -1, -1);
    }

    /** A pair (SERIES, POINT) is one HIT, however many DOTS it has there. */
    private static void hitOnceByOnePoint() {
        for (int mark : new int[] {LINE, STEPS, RANGES}) {
            Chart c = dots(mark).with("gap", 0).with("point", 0, 0, 0, 0).with("point", 0, 1, 3, 3);
            c.due(2, "hit", 0, 1, 0).due(1, "hit", 0, 1, 1).due(NONE, "hit", 0, 1, 2);
        }
    }

    /** 100 times the SERIES, and the POINT: the last of both. */
    private static void hitsOfTheLastPair() {
        Chart c = new Chart();
        for (int series = 0; series < 6; series++) {
            c.with("series", SPOTS, 0, 33);
        }
        for (int gap = 0; gap < 23; gap++) {
            c.with("gap", 5);
        }
        c.with("point", 5, 10, 10, 0).due(523, "hit", 19, 0, 0).due(NONE, "hit", 19, 0, 1).due(5, "shown", 19, 0);
    }

    /** How many CELLS show what is not 32: none, all; each once. */
    private static void inkedNoneAndAll() {
        Chart c = new Chart().due(0, "inked").with("canvas", 40, 16).due(0, "inked").with("scale", 0, 0, 0, 79);
        for (int series = 0; series < 2; series++) {
            c.with("series", BARS, 0, 33);
            for (int point = 0; point < 20; point++) {
                c.with("point", series, 2 * (20 * series + point), 10, 0).due(16 * (20 * series + point + 1), "inked");
            }
        }
        c.due(640, "inked").with("series", LINE, 9, 33).with("point", 2, 0, 0, 0).with("point", 2, 79, 10, 0);
        c.due(640, "inked").with("canvas", 4, 2).due(8, "inked");
        // A LABEL over what is drawn later is one CELL with it.
        new Chart().with("series", SPOTS, 0, 33).with("point", 0, 0, 0, 0).with("label", 0, 0, 1).due(2, "inked")
            .with("point", 0, 1, 0, 0).due(10, "shown", 1, 7).due(3, "inked");
        new Chart().with("scale", 0, 0, 0, 39).with("series", SPOTS, 0, 33).with("point", 0, 0, 0, 0)
            .with("label", 0, 0, 1).with("point", 0, 2, 0, 0).due(10, "shown", 1, 7).due(2, "inked");
    }

    /** h = 7; then h = 31 h + its sign for each CELL, row by row: with Java's wrap-around. */
    private static void digestOfLeastAndGreatest() {
        for (int[] size : new int[][] {{4, 2}, {20, 8}, {40, 16}}) {
            long h = 7;
            for (int cell = 0; cell < size[0] * size[1]; cell++) {
                h = 31 * h + 32;
            }
            new Chart().with("canvas", size[0], size[1]).due(h, "digest");
        }
        new Chart().due(-3883255330825047033L, "digest");
        Chart c = dots(SPOTS).with("point", 0, 6, 7, 0).with("point", 0, 0, 0, 0).with("label", 0, 1, 1);
        long h = 7;
        for (int sign : new int[] {32, 32, 32, 42, 42, 8192, 32, 32}) {
            h = 31 * h + sign;
        }
        c.due(h, "digest");
    }
}
