/** Promises 2 to 9: canvas, scale, cut, fit, place, value, step, tick. */
public final class CanvasScalesTest {
    private static final int BAD = SignCharts.BAD, STATE = SignCharts.STATE, NONE = SignCharts.NONE;
    private static final int NO = SignCharts.NO;
    private static final int MIN = Integer.MIN_VALUE, MAX = Integer.MAX_VALUE;

    public static void main(String[] args) {
        canvas();
        scale();
        cut();
        fit();
        fitAtTheLimits();
        place();
        value();
        valueAgainstPlace();
        step();
        stepsAreTheseAlone();
        tick();
        Due.end();
    }

    private static Chart drawnAndLabelled() {
        Chart c = new Chart();
        c.series(1, 2, 65);
        c.point(0, 0, 0, 0);
        c.point(0, 6, 9, 0);
        c.gap(0);
        c.point(0, 8, 3, 0);
        c.label(0, 1, 4);
        return c;
    }

    private static void canvas() {
        Chart c = drawnAndLabelled();
        Due.is("told(1)", c.told(1), 1);
        String before = Picture.of(c);
        int[][] wrong = {{3, 8}, {41, 8}, {20, 1}, {20, 17}, {-20, 8}, {20, -8}, {0, 0},
            {MIN, 8}, {MAX, 8}, {20, MIN}, {20, MAX}};
        for (int[] w : wrong) {
            Due.refused(c, "canvas(" + w[0] + ", " + w[1] + ")", c.canvas(w[0], w[1]), BAD, before);
        }
        Due.is("canvas(40, 16)", c.canvas(40, 16), 1);
        Due.is("told(2)", c.told(2), 40);
        Due.is("told(3)", c.told(3), 16);
        Due.is("LABELS are gone", c.told(1), 0);
        Due.is("place(0, 10)", c.place(0, 10), 79);
        Due.is("place(1, 10)", c.place(1, 10), 63);
        Due.is("SERIES are left", c.count(0, 0), 4);
        Due.is("at(39, 15)", c.at(39, 15), 32);
        Due.is("at(40, 15)", c.at(40, 15), BAD);
        Due.is("canvas(4, 2)", c.canvas(4, 2), 1);
        Due.is("place(0, 10)", c.place(0, 10), 7);
        Due.is("place(1, 10)", c.place(1, 10), 7);
        Due.is("label(0, 3, 1)", c.label(0, 3, 1) >= 0 ? 1 : 0, 1);
        Due.is("the same canvas again", c.canvas(4, 2), 1);
        Due.is("LABELS are gone by it, too", c.told(1), 0);
    }

    private static void scale() {
        Chart c = drawnAndLabelled();
        String before = Picture.of(c);
        int[][] wrong = {{-1, 0, 0, 1}, {2, 0, 0, 1}, {0, -1, 0, 1}, {0, 2, 0, 1}, {0, 3, 0, 1},
            {0, 0, 1, 1}, {0, 0, 2, 1}, {1, 1, -1000001, 0}, {1, 1, 0, 1000001},
            {0, 0, MIN, 0}, {0, 0, 0, MAX}, {0, 0, MIN, MAX}, {MIN, 0, 0, 1}, {MAX, 0, 0, 1}};
        for (int[] w : wrong) {
            String call = "scale(" + w[0] + ", " + w[1] + ", " + w[2] + ", " + w[3] + ")";
            Due.refused(c, call, c.scale(w[0], w[1], w[2], w[3]), BAD, before);
        }
        Due.is("scale(0, 1, -1000000, 1000000)", c.scale(0, 1, -1000000, 1000000), 0);
        Due.is("told(4)", c.told(4), 1);
        Due.is("told(6)", c.told(6), -1000000);
        Due.is("told(8)", c.told(8), 1000000);
        Due.is("told(5), the other one", c.told(5), 0);
        Due.is("told(9), the other one", c.told(9), 10);
        Due.is("scale(0, 0, 4, 5)", c.scale(0, 0, 4, 5), 1);
        Due.is("scale(0, 0, 0, 9)", c.scale(0, 0, 0, 9), 0);
        Due.is("cut(0, 2, 3)", c.cut(0, 2, 3), 0);
        Due.is("scale(0, 1, 0, 9)", c.scale(0, 1, 0, 9), 2);
        Due.is("LABELS are left", c.told(1), 1);
        Due.is("scale(1, 1, 0, 10)", c.scale(1, 1, 0, 10), 0);
        Due.is("about(0, 1, 4)", c.about(0, 1, 4), 3);
    }

    private static void cut() {
        Chart c = drawnAndLabelled();
        String before = Picture.of(c);
        int[][] wrong = {{-1, 3, 7}, {2, 3, 7}, {0, 0, 7}, {0, -1, 7}, {0, 3, 10}, {0, 3, 11},
            {0, 5, 5}, {0, 6, 5}, {0, MIN, 5}, {0, 5, MAX}, {0, MIN, MAX}, {1, MAX, MIN}};
        for (int[] w : wrong) {
            String call = "cut(" + w[0] + ", " + w[1] + ", " + w[2] + ")";
            Due.refused(c, call, c.cut(w[0], w[1], w[2]), BAD, before);
        }
        Due.is("cut(0, 1, 9)", c.cut(0, 1, 9), 0);
        Due.is("told(4)", c.told(4), 2);
        Due.is("told(5)", c.told(5), 0);
        Due.is("told(6)", c.told(6), 0);
        Due.is("told(8)", c.told(8), 10);
        Due.is("cut(0, 4, 5)", c.cut(0, 4, 5), 2);
        Due.is("place(0, 2)", c.place(0, 2), 9);
        Due.is("scale(1, 1, 0, 10)", c.scale(1, 1, 0, 10), 0);
        Due.is("cut(1, 4, 6)", c.cut(1, 4, 6), 1);
        Due.is("place(1, 0): no more REVERSED", c.place(1, 0), 0);
        Due.is("about(0, 1, 4)", c.about(0, 1, 4), c.place(1, 9));
    }

    private static void fit() {
        Chart c = new Chart();
        String before = Picture.of(c);
        Due.refused(c, "fit(-1)", c.fit(-1), BAD, before);
        Due.refused(c, "fit(2)", c.fit(2), BAD, before);
        Due.refused(c, "fit(0) of no SERIES", c.fit(0), STATE, before);
        c.series(0, 0, 65);
        c.series(4, 0, 66);
        c.gap(1);
        before = Picture.of(c);
        Due.refused(c, "fit(0) of GAPS", c.fit(0), STATE, before);
        Due.refused(c, "fit(1) of GAPS", c.fit(1), STATE, before);
        c.point(1, -40, 25, 6);
        c.point(0, 70, 3, 5);
        c.gap(0);
        c.point(0, 12, 30, 0);
        c.cut(0, 3, 4);
        c.scale(1, 1, 0, 10);
        Due.is("fit(0)", c.fit(0), 1);
        Due.is("told(4)", c.told(4), 0);
        Due.is("told(6)", c.told(6), -40);
        Due.is("told(8)", c.told(8), 70);
        Due.is("told(5): fit(0) leaves it", c.told(5), 1);
        Due.is("fit(1)", c.fit(1), 1);
        Due.is("told(5)", c.told(5), 0);
        Due.is("told(7)", c.told(7), -2);
        Due.is("told(9)", c.told(9), 31);
        Due.is("count(0, 3)", c.count(0, 3), 2);
    }

    private static void fitAtTheLimits() {
        Chart c = new Chart();
        c.series(1, 0, 65);
        c.point(0, 999999, -999990, 50);
        Due.is("fit(0)", c.fit(0), 1);
        Due.is("told(6)", c.told(6), 999999);
        Due.is("told(8), one more", c.told(8), 1000000);
        Due.is("fit(1)", c.fit(1), 1);
        Due.is("told(7), within", c.told(7), -1000000);
        Due.is("told(9)", c.told(9), -999940);
        c.drop(0);
        c.point(0, 1000000, 1000000, 0);
        String before = Picture.of(c);
        Due.refused(c, "fit(0) to 1000001", c.fit(0), STATE, before);
        Due.refused(c, "fit(1) to 1000001", c.fit(1), STATE, before);
        c.point(0, -1000000, 0, 1000000);
        Due.is("fit(0)", c.fit(0), 1);
        Due.is("told(6)", c.told(6), -1000000);
        Due.is("told(8)", c.told(8), 1000000);
        Due.is("fit(1)", c.fit(1), 1);
        Due.is("told(7)", c.told(7), -1000000);
        Due.is("told(9)", c.told(9), 1000000);
        c.point(0, 3, 1000000, 1000000);
        Due.is("fit(1), y and e beyond", c.fit(1), 1);
        Due.is("told(9)", c.told(9), 1000000);
    }

    private static void place() {
        Chart c = new Chart();
        // 2 a 39 + 10 by 20: 10, 88, 166, 244, 322, 400, 478, 556, 634, 712, 790 by 20.
        int[] due = {0, 4, 8, 12, 16, 20, 23, 27, 31, 35, 39};
        for (int v = 0; v <= 10; v++) {
            Due.is("place(0, " + v + ")", c.place(0, v), due[v]);
        }
        Due.is("place(0, -1)", c.place(0, -1), NONE);
        Due.is("place(0, 11)", c.place(0, 11), NONE);
        Due.is("place(0, MIN)", c.place(0, MIN), NONE);
        Due.is("place(0, MAX)", c.place(0, MAX), NONE);
        Due.is("place(-1, 5)", c.place(-1, 5), BAD);
        Due.is("place(2, 5)", c.place(2, 5), BAD);
        c.scale(0, 1, 0, 10);
        for (int v = 0; v <= 10; v++) {
            Due.is("REVERSED place(0, " + v + ")", c.place(0, v), 39 - due[v]);
        }
        Due.is("REVERSED place(0, 11)", c.place(0, 11), NONE);
        c.scale(0, 0, 0, 10);
        c.cut(0, 3, 7);
        // S is 6: 6, 84, 162, 240 by 12 up to FROM, then 240, 318, 396, 474 by 12.
        int[] cut = {0, 7, 13, 20, NONE, NONE, NONE, 20, 26, 33, 39};
        for (int v = 0; v <= 10; v++) {
            Due.is("CUT place(0, " + v + ")", c.place(0, v), cut[v]);
        }
        c.canvas(40, 16);
        c.scale(1, 0, -1000000, 1000000);
        Due.is("place(1, -1000000)", c.place(1, -1000000), 0);
        Due.is("place(1, 0)", c.place(1, 0), 32);
        Due.is("place(1, 999999)", c.place(1, 999999), 63);
        Due.is("place(1, 1000000)", c.place(1, 1000000), 63);
        Due.is("place(1, 1000001)", c.place(1, 1000001), NONE);
    }

    private static void value() {
        Chart c = new Chart();
        int[] places = {0, 4, 8, 12, 16, 20, 23, 27, 31, 35, 39};
        for (int v = 0; v <= 10; v++) {
            Due.is("value(0, " + places[v] + ")", c.value(0, places[v]), v);
        }
        Due.is("value(0, 1)", c.value(0, 1), NO);
        Due.is("value(0, 38)", c.value(0, 38), NO);
        Due.is("value(0, -1)", c.value(0, -1), NO);
        Due.is("value(0, 40)", c.value(0, 40), NO);
        Due.is("value(0, MIN)", c.value(0, MIN), NO);
        Due.is("value(0, MAX)", c.value(0, MAX), NO);
        Due.is("value(2, 0)", c.value(2, 0), NO);
        Due.is("value(-1, 0)", c.value(-1, 0), NO);
        Due.is("value(1, 31)", c.value(1, 31), 10);
        Due.is("value(1, 32)", c.value(1, 32), NO);
    }

    private static void valueAgainstPlace() {
        int[][] ranges = {{0, 10}, {-7, 500}, {-1000, 1000}, {3, 4}, {-100, -17}, {0, 79}};
        for (int[] canvas : new int[][] {{4, 2}, {20, 8}, {40, 16}}) {
            for (int[] r : ranges) {
                for (int kind = 0; kind <= 2; kind++) {
                    Chart c = new Chart();
                    c.canvas(canvas[0], canvas[1]);
                    c.scale(0, kind % 2, r[0], r[1]);
                    if (kind == 2) {
                        c.cut(0, r[0] + (r[1] - r[0]) / 3, r[1] - (r[1] - r[0]) / 4);
                    }
                    leastValues(c, r[0], r[1], 2 * canvas[0]);
                }
            }
        }
    }

    private static void leastValues(Chart c, int low, int high, int dots) {
        long[] least = new long[dots];
        java.util.Arrays.fill(least, NO);
        Asked asked = new Asked(c);
        for (int v = high; v >= low; v--) {
            long place = asked.ask("place", 0, v);
            if (place != NONE) {
                least[(int) place] = v;
            }
        }
        for (int dot = 0; dot < dots; dot++) {
            Due.is("value(0, " + dot + ") of " + low + " .. " + high, asked.ask("value", 0, dot), least[dot]);
        }
    }

    private static void step() {
        Chart c = new Chart();
        Due.is("step(0, 2)", c.step(0, 2), 10);
        Due.is("step(0, 3)", c.step(0, 3), 5);
        Due.is("step(0, 5)", c.step(0, 5), 5);
        Due.is("step(0, 6)", c.step(0, 6), 2);
        Due.is("step(0, 10)", c.step(0, 10), 2);
        Due.is("step(0, 11)", c.step(0, 11), 1);
        Due.is("step(0, 20)", c.step(0, 20), 1);
        Due.is("step(0, 1)", c.step(0, 1), BAD);
        Due.is("step(0, 21)", c.step(0, 21), BAD);
        Due.is("step(0, MIN)", c.step(0, MIN), BAD);
        Due.is("step(0, MAX)", c.step(0, MAX), BAD);
        Due.is("step(2, 5)", c.step(2, 5), BAD);
        Due.is("step(-1, 5)", c.step(-1, 5), BAD);
        c.scale(0, 1, 1, 99);
        Due.is("step(0, 4) of 1 .. 99", c.step(0, 4), 20);
        Due.is("step(0, 3) of 1 .. 99", c.step(0, 3), 25);
        Due.is("step(0, 2) of 1 .. 99", c.step(0, 2), 50);
        c.scale(0, 0, 3, 7);
        Due.is("step(0, 2) of 3 .. 7", c.step(0, 2), 2);
        c.scale(0, 0, -100, 100);
        c.cut(0, -90, 95);
        Due.is("step(0, 2) of a CUT one", c.step(0, 2), 20);
        Due.is("step(0, 4) of a CUT one", c.step(0, 4), 10);
        Due.is("step(0, 5) of a CUT one", c.step(0, 5), 5);
        Due.is("step(0, 16) of a CUT one", c.step(0, 16), 2);
    }

    private static void stepsAreTheseAlone() {
        Chart c = new Chart();
        int[] due = {1, 2, 5, 10, 20, 25, 50, 100, 200, 250, 500, 1000, 2000, 2500, 5000, 10000,
            20000, 25000, 50000, 100000, 200000, 250000, 500000, 1000000, 2000000};
        for (int i = 1; i < due.length; i++) {
            // Of 0 .. 2 s - 1 two are multiples of s, and of each lesser step there are more.
            int high = Math.min(2 * due[i] - 1, 1000000);
            int low = due[i] == 2000000 ? -1000000 : 0;
            c.scale(1, 0, low, high);
            Due.is("step(1, 2) of " + low + " .. " + high, c.step(1, 2), due[i]);
        }
        c.scale(1, 0, 5, 6);
        Due.is("step(1, 2) of 5 .. 6", c.step(1, 2), 1);
    }

    private static void tick() {
        Chart c = new Chart();
        for (int k = 0; k <= 5; k++) {
            Due.is("tick(0, 6, " + k + ")", c.tick(0, 6, k), 2 * k);
        }
        Due.is("tick(0, 6, 6)", c.tick(0, 6, 6), NO);
        Due.is("tick(0, 6, -1)", c.tick(0, 6, -1), NO);
        Due.is("tick(0, 6, MIN)", c.tick(0, 6, MIN), NO);
        Due.is("tick(0, 6, MAX)", c.tick(0, 6, MAX), NO);
        Due.is("tick(0, 1, 0)", c.tick(0, 1, 0), NO);
        Due.is("tick(0, 21, 0)", c.tick(0, 21, 0), NO);
        Due.is("tick(2, 6, 0)", c.tick(2, 6, 0), NO);
        Due.is("tick(-1, 6, 0)", c.tick(-1, 6, 0), NO);
        c.scale(0, 1, -13, 13);
        int[] fives = {-10, -5, 0, 5, 10, NO};
        for (int k = 0; k < fives.length; k++) {
            Due.is("REVERSED tick(0, 5, " + k + ")", c.tick(0, 5, k), fives[k]);
        }
        c.scale(0, 0, 1, 99);
        Due.is("tick(0, 4, 0) of 1 .. 99", c.tick(0, 4, 0), 20);
        Due.is("tick(0, 4, 3) of 1 .. 99", c.tick(0, 4, 3), 80);
        Due.is("tick(0, 4, 4) of 1 .. 99", c.tick(0, 4, 4), NO);
        c.scale(0, 0, -100, 100);
        c.cut(0, -90, 95);
        int[] cut = {-100, -95, -90, 95, 100, NO};
        for (int k = 0; k < cut.length; k++) {
            Due.is("CUT tick(0, 5, " + k + ")", c.tick(0, 5, k), cut[k]);
        }
        Due.is("CUT tick(0, 5, MAX)", c.tick(0, 5, MAX), NO);
    }
}
