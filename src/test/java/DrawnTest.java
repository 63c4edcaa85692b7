/** Promises 18 to 22: at, shown, hit, inked, digest; what each MARK draws. */
public final class DrawnTest {
    private static final int BAD = SignCharts.BAD, NONE = SignCharts.NONE;
    private static final int MIN = Integer.MIN_VALUE, MAX = Integer.MAX_VALUE;

    public static void main(String[] args) {
        cellsThatAreNot();
        everyDot();
        spots();
        line();
        lineDown();
        lineFarFromTheCorner();
        lineLinks();
        steps();
        bars();
        barsOnReversed();
        ranges();
        rangesOnReversedAndCut();
        layers();
        hits();
        hitsOfAll();
        labelsLieOver();
        inkedAndDigest();
        whatChangesIsDrawnAnew();
        Due.end();
    }

    /** A chart whose values are its dots: 4 columns, 2 rows; 0 .. 7 both ways. */
    private static Chart dots(int mark) {
        Chart c = new Chart();
        c.canvas(4, 2);
        c.scale(0, 0, 0, 7);
        c.scale(1, 0, 0, 7);
        c.series(mark, 5, 42);
        return c;
    }

    private static void due(String what, Chart c, int[][] signs) {
        for (int row = 0; row < signs.length; row++) {
            for (int column = 0; column < signs[row].length; column++) {
                Due.is(what + ": at(" + column + ", " + row + ")", c.at(column, row), signs[row][column]);
            }
        }
    }

    private static void cellsThatAreNot() {
        Chart c = dots(0);
        int[][] wrong = {{-1, 0}, {4, 0}, {0, -1}, {0, 2}, {MIN, 0}, {MAX, 0}, {0, MIN}, {0, MAX}};
        for (int[] w : wrong) {
            Due.is("at(" + w[0] + ", " + w[1] + ")", c.at(w[0], w[1]), BAD);
            Due.is("shown(" + w[0] + ", " + w[1] + ")", c.shown(w[0], w[1]), BAD);
            Due.is("hit(" + w[0] + ", " + w[1] + ", 0)", c.hit(w[0], w[1], 0), BAD);
        }
        Due.is("hit(0, 0, -1)", c.hit(0, 0, -1), BAD);
        Due.is("hit(0, 0, MIN)", c.hit(0, 0, MIN), BAD);
        Due.is("hit(0, 0, MAX)", c.hit(0, 0, MAX), NONE);
        Due.is("at(3, 1)", c.at(3, 1), 32);
    }

    private static void everyDot() {
        // By y from below: 3 from above is the lowest.
        int[][] bits = {{64, 4, 2, 1}, {128, 32, 16, 8}};
        for (int x = 0; x < 8; x++) {
            for (int y = 0; y < 8; y++) {
                Chart c = dots(1);
                c.point(0, x, y, 0);
                Due.is("DOT " + x + " " + y, c.at(x / 2, 1 - y / 4), 10240 + bits[x % 2][y % 4]);
                Due.is("inked()", c.inked(), 1);
            }
        }
    }

    private static void spots() {
        Chart c = dots(0);
        c.point(0, 0, 7, 0);
        c.point(0, 7, 7, 0);
        c.point(0, 8, 7, 0);
        c.point(0, 5, 0, 3);
        due("SPOTS", c, new int[][] {{42, 32, 32, 42}, {32, 32, 42, 32}});
    }

    private static void line() {
        Chart c = dots(1);
        c.point(0, 0, 0, 0);
        c.point(0, 7, 3, 0);
        // n 7; (6 k + 7) / 14: 0 0 1 1 2 2 3 3, and x is k.
        due("LINE", c, new int[][] {{32, 32, 32, 32}, {10240 + 64 + 128, 10240 + 4 + 32,
            10240 + 2 + 16, 10240 + 1 + 8}});
        Due.is("count(0, 4)", c.count(0, 4), 4);
    }

    private static void lineDown() {
        Chart c = dots(1);
        c.point(0, 7, 3, 0);
        c.point(0, 0, 0, 0);
        // y is 3 + (-6 k + 7) / 14, rounded down: 3 3 2 2 1 1 0 0 at x 7 .. 0.
        due("LINE down", c, new int[][] {{32, 32, 32, 32}, {10240 + 64 + 128, 10240 + 4 + 32,
            10240 + 2 + 16, 10240 + 1 + 8}});
        c.drop(0);
        c.drop(0);
        c.point(0, 0, 1, 0);
        c.point(0, 2, 0, 0);
        // n 2; y is 1 + (-2 k + 2) / 4, rounded down: 1, 1, 0.
        Due.is("half way down, at(0, 1)", c.at(0, 1), 10240 + 4 + 32);
        Due.is("half way down, at(1, 1)", c.at(1, 1), 10240 + 64);
        c.point(0, 2, 7, 0);
        Due.is("straight up, at(1, 0)", c.at(1, 0), 10240 + 1 + 2 + 4 + 64);
    }

    private static void lineFarFromTheCorner() {
        Chart c = dots(1);
        c.point(0, 3, 7, 0);
        c.point(0, 7, 6, 0);
        // n 4; y is 7 + (-2 k + 4) / 8, rounded down: 7 7 7 6 6.
        due("far, flat", c, new int[][] {{32, 10240 + 8, 10240 + 1 + 8, 10240 + 2 + 16},
            {32, 32, 32, 32}});
        c = dots(1);
        c.point(0, 7, 3, 0);
        c.point(0, 6, 7, 0);
        // n 4; x is 7 + (-2 k + 4) / 8, rounded down: 7 7 7 6 6.
        due("far, steep", c, new int[][] {{32, 32, 32, 10240 + 32 + 128 + 1 + 2},
            {32, 32, 32, 10240 + 8}});
    }

    private static void lineLinks() {
        Chart c = dots(1);
        c.point(0, 0, 0, 0);
        c.gap(0);
        c.point(0, 7, 0, 0);
        c.point(0, 7, 8, 0);
        c.point(0, 7, 7, 0);
        due("without LINKS", c, new int[][] {{32, 32, 32, 10240 + 8},
            {10240 + 64, 32, 32, 10240 + 128}});
        c.point(0, 7, 7, 0);
        Due.is("n 0, at(3, 0)", c.at(3, 0), 10240 + 8);
        Due.is("n 0, hit(3, 0, 0)", c.hit(3, 0, 0), 5);
        Due.is("n 0, hit(3, 0, 1)", c.hit(3, 0, 1), 4);
        Due.is("n 0, hit(3, 0, 2)", c.hit(3, 0, 2), NONE);
    }

    private static void steps() {
        Chart c = dots(2);
        c.point(0, 1, 1, 0);
        Due.is("without a LINK, at(0, 1)", c.at(0, 1), 10240 + 32);
        c.point(0, 4, 6, 0);
        due("STEPS up", c, new int[][] {{32, 32, 10240 + 64 + 4 + 2, 32},
            {10240 + 32, 10240 + 4 + 32, 10240 + 4 + 2 + 1, 32}});
        Due.is("the first one's CELL is hit by both", c.hit(0, 1, 0), 1);
        Due.is("the first one's CELL is hit by both", c.hit(0, 1, 1), 0);
        c.point(0, 2, 0, 0);
        due("STEPS back and down", c, new int[][] {
            {32, 10240 + 1 + 2 + 4 + 64 - 1 + 16, 10240 + 64 + 4 + 2, 32},
            {10240 + 32, 10240 + 4 + 32 + 1 + 2 + 64, 10240 + 4 + 2 + 1, 32}});
        c.gap(0);
        c.point(0, 7, 0, 0);
        Due.is("after a GAP, at(3, 1)", c.at(3, 1), 10240 + 128);
    }

    private static void bars() {
        int[][] due = {{32, 9602}, {32, 9604}, {32, 9606}, {32, 9608},
            {9602, 9608}, {9604, 9608}, {9606, 9608}, {9608, 9608}};
        for (int y = 0; y < 8; y++) {
            Chart c = dots(3);
            c.point(0, 5, y, 3);
            Due.is("BARS " + y + ", above", c.at(2, 0), due[y][0]);
            Due.is("BARS " + y + ", below", c.at(2, 1), due[y][1]);
            Due.is("BARS " + y + ", count(0, 4)", c.count(0, 4), y / 4 + 1);
        }
        Chart c = dots(3);
        c.point(0, 4, 6, 0);
        c.point(0, 5, 1, 0);
        Due.is("the most eighths, above", c.at(2, 0), 9606);
        Due.is("the most eighths, below", c.at(2, 1), 9608);
        Due.is("hit(2, 1, 0)", c.hit(2, 1, 0), 1);
        Due.is("hit(2, 1, 1)", c.hit(2, 1, 1), 0);
        Due.is("hit(2, 0, 0)", c.hit(2, 0, 0), 0);
        Due.is("hit(2, 0, 1)", c.hit(2, 0, 1), NONE);
    }

    private static void barsOnReversed() {
        Chart c = dots(3);
        c.scale(1, 1, 0, 7);
        c.point(0, 0, 7, 0);
        c.point(0, 2, 2, 0);
        due("BARS on a REVERSED one", c, new int[][] {{32, 9604, 32, 32}, {9602, 9608, 32, 32}});
    }

    private static void ranges() {
        Chart c = dots(4);
        c.point(0, 0, 3, 0);
        c.point(0, 2, 3, 2);
        c.point(0, 5, 6, 2);
        c.point(0, 7, 1, 2);
        due("RANGES", c, new int[][] {
            {32, 10240 + 64 + 4, 10240 + 16 + 32 + 128, 32},
            {10240 + 1, 10240 + 1 + 2 + 4, 32, 10240 + 8 + 16 + 32}});
        c.drop(0);
        c.point(0, 7, 1, 1000000);
        Due.is("both ends without PLACE", c.at(3, 1), 10240 + 32);
    }

    private static void rangesOnReversedAndCut() {
        Chart c = dots(4);
        c.scale(1, 1, 0, 7);
        c.point(0, 0, 5, 3);
        // PLACES: y 2 at 5, y 5 at 2, y 8 at none.
        Due.is("REVERSED, at(0, 0)", c.at(0, 0), 10240 + 64 + 4);
        Due.is("REVERSED, at(0, 1)", c.at(0, 1), 10240 + 2 + 1);
        c.scale(1, 0, 0, 10);
        c.cut(1, 3, 6);
        // Values 0 .. 3 and 6 .. 10 are DOTS 0 .. 3 and 3 .. 7.
        c.point(0, 2, 6, 2);
        Due.is("an end in what is left out, above", c.at(1, 0), 10240 + 64 + 4);
        Due.is("an end in what is left out, below", c.at(1, 1), 10240 + 1);
        c.point(0, 4, 6, 4);
        Due.is("both ends, above", c.at(2, 0), 10240 + 64 + 4 + 2 + 1);
        Due.is("both ends, below", c.at(2, 1), 10240 + 1 + 2);
        Due.is("not SEEN in what is left out", c.count(0, 3), 2);
    }

    private static void layers() {
        Chart c = dots(0);
        c.series(1, 5, 33);
        c.series(3, 4, 33);
        for (int i = 0; i < 3; i++) {
            c.point(i, 0, 0, 0);
        }
        Due.is("of one LAYER the greater number", c.shown(0, 1), 1);
        Due.is("its sign", c.at(0, 1), 10240 + 64);
        c.style(2, 1, 9);
        Due.is("the greatest LAYER", c.shown(0, 1), 2);
        Due.is("its sign", c.at(0, 1), 9602);
        c.style(2, 1, 0);
        c.style(0, 1, 6);
        Due.is("a LAYER goes before the number", c.shown(0, 1), 0);
        Due.is("its sign", c.at(0, 1), 42);
        Due.is("the order of HITS", c.hit(0, 1, 0), 0);
        Due.is("the order of HITS", c.hit(0, 1, 1), 100);
        Due.is("the order of HITS", c.hit(0, 1, 2), 200);
        Due.is("the order of HITS", c.hit(0, 1, 3), NONE);
        Due.is("shown(1, 1)", c.shown(1, 1), NONE);
        c.point(1, 7, 7, 0);
        Due.is("shown(3, 0)", c.shown(3, 0), 1);
    }

    private static void hits() {
        Chart c = dots(1);
        c.series(0, 5, 33);
        c.point(0, 0, 0, 0);
        c.point(0, 3, 0, 0);
        c.gap(0);
        c.point(0, 1, 1, 0);
        c.point(1, 9, 9, 0);
        c.point(1, 1, 3, 0);
        int[] due = {101, 3, 1, 0, NONE, NONE};
        for (int k = 0; k < due.length; k++) {
            Due.is("hit(0, 1, " + k + ")", c.hit(0, 1, k), due[k]);
        }
        Due.is("hit(1, 1, 0)", c.hit(1, 1, 0), 1);
        Due.is("hit(1, 1, 1)", c.hit(1, 1, 1), NONE);
        Due.is("hit(1, 0, 0)", c.hit(1, 0, 0), NONE);
    }

    private static void hitsOfAll() {
        Chart c = dots(0);
        for (int i = 1; i < 6; i++) {
            c.series(i % 5, i == 3 ? 9 : 5, 33);
        }
        for (int i = 0; i < 6; i++) {
            for (int k = 0; k < 24; k++) {
                c.point(i, 1, 2, 0);
            }
        }
        int[] order = {3, 5, 4, 2, 1, 0};
        for (int k = 0; k < 144; k++) {
            Due.is("hit(0, 1, " + k + ")", c.hit(0, 1, k), 100 * order[k / 24] + 23 - k % 24);
        }
        Due.is("hit(0, 1, 144)", c.hit(0, 1, 144), NONE);
    }

    private static void labelsLieOver() {
        Chart c = dots(0);
        c.point(0, 0, 0, 0);
        c.label(0, 0, 2);
        c.point(0, 2, 0, 0);
        Due.is("a LABEL's sign", c.at(1, 1), 8192);
        Due.is("a LABEL's sign", c.at(2, 1), 8192);
        Due.is("at(3, 1)", c.at(3, 1), 32);
        Due.is("shown(1, 1)", c.shown(1, 1), 10);
        Due.is("shown(3, 1)", c.shown(3, 1), NONE);
        Due.is("HITS lie under it", c.hit(1, 1, 0), 1);
        Due.is("HITS of a LABEL", c.hit(2, 1, 0), NONE);
        Due.is("inked()", c.inked(), 3);
    }

    private static void inkedAndDigest() {
        Chart c = dots(0);
        Due.is("inked()", c.inked(), 0);
        c.point(0, 0, 7, 0);
        c.series(3, 0, 33);
        c.point(1, 0, 7, 0);
        Due.is("inked(), one under another", c.inked(), 2);
        c.point(0, 7, 7, 0);
        Due.is("inked()", c.inked(), 3);
        long h = 7;
        for (int sign : new int[] {42, 32, 32, 42, 9608, 32, 32, 32}) {
            h = 31 * h + sign;
        }
        Due.is("digest()", c.digest(), h);
        c.canvas(40, 16);
        Asked asked = new Asked(c);
        h = 7;
        for (int row = 0; row < 16; row++) {
            for (int column = 0; column < 40; column++) {
                h = 31 * h + asked.ask("at", column, row);
            }
        }
        Due.is("digest() of the greatest", c.digest(), h);
    }

    /** Each call that may change what is drawn, after what was drawn has been looked at. */
    private static void whatChangesIsDrawnAnew() {
        Chart c = dots(1);
        c.point(0, 1, 1, 0);
        Due.is("point", c.at(0, 1), 10240 + 32);
        c.scale(0, 0, 1, 8);
        Due.is("scale across", c.at(0, 1), 10240 + 4);
        c.scale(1, 1, 0, 7);
        Due.is("scale upwards", c.at(0, 0), 10240 + 2);
        c.point(0, 2, 1, 0);
        Due.is("point", c.at(0, 0), 10240 + 2 + 16);
        c.style(0, 0, 3);
        Due.is("style", c.at(0, 0), 9606);
        c.drop(0);
        c.style(0, 0, 1);
        Due.is("drop", c.at(0, 0), 10240 + 2);
        c.point(0, 2, 1, 0);
        Due.is("before fit", c.count(0, 4), 1);
        c.fit(0);
        Due.is("fit", c.count(0, 4), 4);
        c.canvas(5, 2);
        Due.is("canvas", c.count(0, 4), 5);
        c.scale(0, 0, 0, 9);
        Due.is("inked()", c.inked(), 2);
        c.cut(0, 1, 8);
        Due.is("cut", c.inked(), 1);
        eachLooksForItself();
    }

    /** Each call that tells what is drawn, right after a change. */
    private static void eachLooksForItself() {
        Chart c = dots(0);
        long blank = c.digest();
        c.point(0, 0, 0, 0);
        Due.holds("digest", c.digest() != blank);
        c.point(0, 2, 0, 0);
        Due.is("inked", c.inked(), 2);
        c.point(0, 4, 0, 0);
        Due.is("at", c.at(2, 1), 42);
        c.point(0, 6, 0, 0);
        Due.is("shown", c.shown(3, 1), 0);
        c.point(0, 0, 7, 0);
        Due.is("hit", c.hit(0, 0, 0), 4);
        c.point(0, 2, 7, 0);
        Due.is("count", c.count(0, 4), 6);
        c.point(0, 6, 7, 0);
        Due.is("legend", c.legend(1, 1), 0);
        c.drop(0);
        Due.is("legend", c.legend(1, 1), 1);
        c.point(0, 4, 7, 0);
        c.point(0, 6, 7, 0);
        Due.is("label", c.label(0, 5, 1), NONE);
        c.drop(0);
        Due.is("label", c.label(0, 6, 1), 0);
    }
}
