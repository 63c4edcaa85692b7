/** Promises 10 to 17: series, style, point, gap, drop, about, count, five. */
public final class SeriesTest {
    private static final int BAD = SignCharts.BAD, STATE = SignCharts.STATE, FULL = SignCharts.FULL;
    private static final int NO = SignCharts.NO;
    private static final int MIN = Integer.MIN_VALUE, MAX = Integer.MAX_VALUE;

    public static void main(String[] args) {
        series();
        style();
        point();
        gap();
        drop();
        dropTakesLabels();
        about();
        count();
        five();
        fiveOfFew();
        Due.end();
    }

    private static void series() {
        Chart c = new Chart();
        String before = Picture.of(c);
        int[][] wrong = {{-1, 0, 33}, {5, 0, 33}, {0, -1, 33}, {0, 10, 33}, {0, 0, 32}, {0, 0, 127},
            {MIN, 0, 33}, {MAX, 0, 33}, {0, MIN, 33}, {0, MAX, 33}, {0, 0, MIN}, {0, 0, MAX}};
        for (int[] w : wrong) {
            String call = "series(" + w[0] + ", " + w[1] + ", " + w[2] + ")";
            Due.refused(c, call, c.series(w[0], w[1], w[2]), BAD, before);
        }
        for (int i = 0; i < 5; i++) {
            Due.is("series(" + i + ", 9, 126)", c.series(i, 9, 126), i);
        }
        Due.is("series(0, 0, 33)", c.series(0, 0, 33), 5);
        Due.is("told(0)", c.told(0), 6);
        before = Picture.of(c);
        Due.refused(c, "a seventh one", c.series(0, 0, 33), FULL, before);
        Due.refused(c, "a seventh one, BAD first", c.series(0, 0, 32), BAD, before);
    }

    private static void style() {
        Chart c = new Chart();
        c.series(1, 2, 40);
        c.point(0, 0, 0, 0);
        String before = Picture.of(c);
        int[][] wrong = {{-1, 0, 0}, {1, 0, 0}, {0, -1, 0}, {0, 3, 40}, {0, 0, -1}, {0, 0, 5},
            {0, 1, -1}, {0, 1, 10}, {0, 2, 32}, {0, 2, 127}, {MAX, 0, 0}, {MIN, 0, 0},
            {0, MIN, 0}, {0, MAX, 0}, {0, 0, MIN}, {0, 1, MAX}, {0, 2, MAX}};
        for (int[] w : wrong) {
            String call = "style(" + w[0] + ", " + w[1] + ", " + w[2] + ")";
            Due.refused(c, call, c.style(w[0], w[1], w[2]), BAD, before);
        }
        Due.is("at(0, 7)", c.at(0, 7), 10240 + 64);
        Due.is("style(0, 0, 0)", c.style(0, 0, 0), 1);
        Due.is("at(0, 7)", c.at(0, 7), 40);
        Due.is("style(0, 2, 126)", c.style(0, 2, 126), 40);
        Due.is("at(0, 7)", c.at(0, 7), 126);
        Due.is("style(0, 2, 33)", c.style(0, 2, 33), 126);
        Due.is("style(0, 1, 9)", c.style(0, 1, 9), 2);
        Due.is("style(0, 1, 0)", c.style(0, 1, 0), 9);
        Due.is("style(0, 0, 4)", c.style(0, 0, 4), 0);
        Due.is("style(0, 0, 3)", c.style(0, 0, 3), 4);
        Due.is("at(0, 7)", c.at(0, 7), 9602);
    }

    private static void point() {
        Chart c = new Chart();
        c.series(0, 0, 33);
        String before = Picture.of(c);
        int[][] wrong = {{-1, 0, 0, 0}, {1, 0, 0, 0}, {0, 1000001, 0, 0}, {0, -1000001, 0, 0},
            {0, 0, 1000001, 0}, {0, 0, -1000001, 0}, {0, 0, 0, -1}, {0, 0, 0, 1000001},
            {MIN, 0, 0, 0}, {MAX, 0, 0, 0}, {0, MIN, 0, 0}, {0, 0, MAX, 0}, {0, 0, 0, MIN},
            {0, 0, 0, MAX}};
        for (int[] w : wrong) {
            String call = "point(" + w[0] + ", " + w[1] + ", " + w[2] + ", " + w[3] + ")";
            Due.refused(c, call, c.point(w[0], w[1], w[2], w[3]), BAD, before);
        }
        Due.is("at the limits", c.point(0, -1000000, 1000000, 1000000), 0);
        Due.is("at the other limits", c.point(0, 1000000, -1000000, 0), 1);
        for (int i = 2; i < 24; i++) {
            Due.is("point " + i, c.point(0, i, i, i), i);
        }
        before = Picture.of(c);
        Due.refused(c, "a 25th one", c.point(0, 0, 0, 0), FULL, before);
        Due.refused(c, "a 25th one, BAD first", c.point(0, 0, 0, -1), BAD, before);
        Due.is("about(0, 0, 0)", c.about(0, 0, 0), -1000000);
        Due.is("about(0, 0, 1)", c.about(0, 0, 1), 1000000);
        Due.is("about(0, 0, 2)", c.about(0, 0, 2), 1000000);
        Due.is("a second SERIES has room", c.series(0, 0, 33), 1);
        Due.is("point(1, 0, 0, 0)", c.point(1, 0, 0, 0), 0);
    }

    private static void gap() {
        Chart c = new Chart();
        String before = Picture.of(c);
        Due.refused(c, "gap(0) of no SERIES", c.gap(0), BAD, before);
        c.series(1, 0, 33);
        before = Picture.of(c);
        Due.refused(c, "gap(-1)", c.gap(-1), BAD, before);
        Due.refused(c, "gap(1)", c.gap(1), BAD, before);
        Due.refused(c, "gap(MAX)", c.gap(MAX), BAD, before);
        for (int i = 0; i < 24; i++) {
            Due.is("GAP " + i, c.gap(0), i);
        }
        before = Picture.of(c);
        Due.refused(c, "a 25th one", c.gap(0), FULL, before);
        Due.refused(c, "a POINT after 24 GAPS", c.point(0, 0, 0, 0), FULL, before);
        Due.is("inked()", c.inked(), 0);
        Due.is("count(0, 1)", c.count(0, 1), 24);
    }

    private static void drop() {
        Chart c = new Chart();
        String before = Picture.of(c);
        Due.refused(c, "drop(0) of no SERIES", c.drop(0), BAD, before);
        c.series(0, 0, 33);
        before = Picture.of(c);
        Due.refused(c, "drop(0) of an empty one", c.drop(0), STATE, before);
        Due.refused(c, "drop(-1)", c.drop(-1), BAD, before);
        Due.refused(c, "drop(1)", c.drop(1), BAD, before);
        Due.refused(c, "drop(MIN)", c.drop(MIN), BAD, before);
        c.point(0, 0, 0, 0);
        c.gap(0);
        c.point(0, 10, 10, 0);
        Due.is("at(19, 0)", c.at(19, 0), 33);
        Due.is("drop(0)", c.drop(0), 2);
        Due.is("at(19, 0)", c.at(19, 0), 32);
        Due.is("drop(0)", c.drop(0), 1);
        Due.is("count(0, 1)", c.count(0, 1), 0);
        Due.is("at(0, 7)", c.at(0, 7), 33);
        Due.is("drop(0)", c.drop(0), 0);
        Due.is("inked()", c.inked(), 0);
        Due.is("drop(0)", c.drop(0), STATE);
        Due.is("point(0, 4, 4, 4)", c.point(0, 4, 4, 4), 0);
        Due.is("after a GAP was there", c.about(0, 0, 0), 4);
    }

    private static void dropTakesLabels() {
        Chart c = new Chart();
        c.series(0, 0, 33);
        c.series(0, 0, 34);
        c.point(0, 0, 0, 0);
        c.point(0, 3, 5, 0);
        c.point(1, 0, 10, 0);
        c.point(1, 3, 8, 0);
        c.label(0, 1, 1);
        c.label(0, 0, 2);
        c.label(0, 1, 3);
        c.label(1, 1, 4);
        c.label(1, 0, 5);
        Due.is("told(1)", c.told(1), 5);
        Due.is("drop(0)", c.drop(0), 1);
        Due.is("told(1)", c.told(1), 3);
        int[] lengths = {2, 4, 5};
        for (int i = 0; i < 3; i++) {
            Due.is("labelled(" + i + ", 2)", c.labelled(i, 2), lengths[i]);
        }
        Due.is("labelled(0, 3)", c.labelled(0, 3), 0);
        Due.is("labelled(1, 3)", c.labelled(1, 3), 1);
        Due.is("labelled(1, 4)", c.labelled(1, 4), 1);
        Due.is("labelled(3, 2)", c.labelled(3, 2), BAD);
        Due.is("shown", c.shown(c.labelled(2, 0), c.labelled(2, 1)), 12);
        Due.is("at", c.at(c.labelled(2, 0), c.labelled(2, 1)), 8194);
        Due.is("drop(1)", c.drop(1), 1);
        Due.is("told(1)", c.told(1), 2);
        Due.is("labelled(0, 2)", c.labelled(0, 2), 2);
        Due.is("labelled(1, 2)", c.labelled(1, 2), 5);
    }

    private static void about() {
        Chart c = new Chart();
        c.series(0, 0, 33);
        c.point(0, 5, 10, 7);
        c.gap(0);
        c.point(0, 11, 5, 0);
        c.point(0, 5, -1, 0);
        int[] first = {5, 10, 7, 20, 31};
        for (int what = 0; what < 5; what++) {
            Due.is("about(0, 0, " + what + ")", c.about(0, 0, what), first[what]);
            Due.is("about(0, 1, " + what + ") of a GAP", c.about(0, 1, what), NO);
        }
        Due.is("x without PLACE", c.about(0, 2, 4), NO);
        Due.is("x without PLACE", c.about(0, 2, 3), NO);
        Due.is("x without PLACE", c.about(0, 2, 0), 11);
        Due.is("y without PLACE", c.about(0, 3, 3), NO);
        Due.is("y without PLACE", c.about(0, 3, 4), NO);
        Due.is("y without PLACE", c.about(0, 3, 1), -1);
        int[][] wrong = {{-1, 0, 0}, {1, 0, 0}, {0, -1, 0}, {0, 4, 0}, {0, 0, -1}, {0, 0, 5},
            {MIN, 0, 0}, {0, MAX, 0}, {0, MIN, 0}, {0, 0, MAX}, {0, 0, MIN}};
        for (int[] w : wrong) {
            String call = "about(" + w[0] + ", " + w[1] + ", " + w[2] + ")";
            Due.is(call, c.about(w[0], w[1], w[2]), NO);
        }
    }

    private static void count() {
        Chart c = new Chart();
        c.series(0, 0, 33);
        for (int what = 0; what < 5; what++) {
            Due.is("count(0, " + what + ") of an empty one", c.count(0, what), 0);
        }
        c.gap(0);
        c.point(0, 0, 0, 0);
        c.point(0, 11, 0, 0);
        c.point(0, 0, 0, 0);
        c.gap(0);
        c.gap(0);
        c.point(0, 10, 10, 0);
        c.gap(0);
        int[] due = {8, 4, 2, 3, 2};
        for (int what = 0; what < 5; what++) {
            Due.is("count(0, " + what + ")", c.count(0, what), due[what]);
        }
        c.style(0, 0, 3);
        Due.is("count(0, 4) of BARS", c.count(0, 4), 9);
        runsAtTheEnds();
        c.series(3, 9, 33);
        c.point(1, 10, 10, 0);
        Due.is("count(0, 4) under another", c.count(0, 4), 9);
        int[][] wrong = {{-1, 0}, {2, 0}, {0, -1}, {0, 5}, {MIN, 0}, {MAX, 0}, {0, MIN}, {0, MAX}};
        for (int[] w : wrong) {
            Due.is("count(" + w[0] + ", " + w[1] + ")", c.count(w[0], w[1]), BAD);
        }
    }

    private static void runsAtTheEnds() {
        Chart c = new Chart();
        c.series(0, 0, 33);
        c.point(0, 0, 0, 0);
        Due.is("count(0, 2) of one POINT", c.count(0, 2), 1);
        c.gap(0);
        Due.is("count(0, 2) with a GAP behind", c.count(0, 2), 1);
        c.point(0, 99, 0, 0);
        Due.is("count(0, 2), not SEEN", c.count(0, 2), 2);
        c.point(0, 0, 0, 0);
        Due.is("count(0, 2), one more", c.count(0, 2), 2);
    }

    private static void five() {
        Chart c = new Chart();
        c.series(0, 0, 33);
        for (int k = 0; k < 5; k++) {
            Due.is("five(0, " + k + ") of none", c.five(0, k), NO);
        }
        c.gap(0);
        Due.is("five(0, 0) of a GAP", c.five(0, 0), NO);
        // In order: -50, -5, 3, 3, 9, 100, 1000000.
        for (int y : new int[] {9, 3, -50, 1000000}) {
            c.point(0, 500, y, 77);
        }
        c.gap(0);
        for (int y : new int[] {100, 3, -5}) {
            c.point(0, 500, y, 77);
        }
        int[] due = {-50, -5, 3, 9, 1000000};
        for (int k = 0; k < 5; k++) {
            Due.is("five(0, " + k + ")", c.five(0, k), due[k]);
        }
        int[][] wrong = {{-1, 0}, {1, 0}, {0, -1}, {0, 5}, {MIN, 0}, {MAX, 0}, {0, MIN}, {0, MAX}};
        for (int[] w : wrong) {
            Due.is("five(" + w[0] + ", " + w[1] + ")", c.five(w[0], w[1]), NO);
        }
    }

    private static void fiveOfFew() {
        Chart c = new Chart();
        c.series(0, 0, 33);
        c.point(0, 0, 8, 0);
        for (int k = 0; k < 5; k++) {
            Due.is("five(0, " + k + ") of one", c.five(0, k), 8);
        }
        Due.is("five(0, 5) of one", c.five(0, 5), NO);
        Due.is("five(0, -1) of one", c.five(0, -1), NO);
        c.point(0, 0, 4, 0);
        int[] due = {4, 4, 4, 4, 8};
        for (int k = 0; k < 5; k++) {
            Due.is("five(0, " + k + ") of two", c.five(0, k), due[k]);
        }
        c.point(0, 0, 4, 0);
        c.point(0, 0, 4, 0);
        for (int k = 0; k < 5; k++) {
            Due.is("five(0, " + k + ") of 4, 4, 4, 8", c.five(0, k), due[k]);
        }
        c.series(0, 0, 33);
        for (int y : new int[] {-1, 2, 0, 1, -2}) {
            c.point(1, 0, y, 0);
        }
        for (int k = 0; k < 5; k++) {
            Due.is("five(1, " + k + ") of -2 .. 2", c.five(1, k), k - 2);
        }
    }
}
