/** Promises 1 to 9 at their edges: a method for each sentence that names one. */
public final class CanvasScalesBoundsTest {
    private static final int BAD = SignCharts.BAD, STATE = SignCharts.STATE, NONE = SignCharts.NONE;
    private static final int NO = SignCharts.NO;
    private static final int MIN = Integer.MIN_VALUE, MAX = Integer.MAX_VALUE;
    private static final int LIMIT = 1000000;

    public static void main(String[] args) {
        columnsAndRows();
        canvasTakesLabels();
        scalesAreTwo();
        dotsOfScales();
        kinds();
        lowBelowHigh();
        limitsOfLowAndHigh();
        fromAndTo();
        leastScaleThatCanBeCut();
        placesEnd();
        placesRound();
        placesOfTheGreatestScale();
        placesOfCuts();
        leastValueOfSeveral();
        valuesOfCuts();
        ticksAtMost();
        ticksOfCuts();
        noTicks();
        stepsAreWhole();
        theGreatestSteps();
        ticksInTurn();
        fitOfNothing();
        fitOfAll();
        fitOfAlike();
        fitWithinTheLimits();
        fitMakesStraight();
        Due.end();
    }

    private static Chart full() {
        Chart c = new Chart().with("scale", 0, 1, 0, 10).with("cut", 1, 3, 7).with("series", 1, 0, 65);
        c.with("point", 0, 2, 2, 1).with("gap", 0).with("point", 0, 9, 9, 0).with("point", 0, 11, 5, 0);
        return c.with("label", 0, 0, 3).with("label", 0, 2, 1);
    }

    /** COLUMNS (4 .. 40) and ROWS (2 .. 16), 20 and 8 at first. */
    private static void columnsAndRows() {
        new Chart().due(20, "told", 2).due(8, "told", 3).due(32, "at", 19, 7)
            .due(BAD, "at", 20, 7).due(BAD, "at", 19, 8);
        for (int columns : new int[] {4, 5, 39, 40}) {
            new Chart().due(1, "canvas", columns, 8).due(columns, "told", 2).due(8, "told", 3)
                .due(32, "at", columns - 1, 0).due(BAD, "at", columns, 0);
        }
        for (int rows : new int[] {2, 3, 15, 16}) {
            new Chart().due(1, "canvas", 20, rows).due(20, "told", 2).due(rows, "told", 3)
                .due(32, "at", 0, rows - 1).due(BAD, "at", 0, rows);
        }
        Chart c = full();
        for (int columns : new int[] {MIN, -4, 0, 3, 41, MAX}) {
            c.refused(BAD, "canvas", columns, 8);
        }
        for (int rows : new int[] {MIN, -2, 0, 1, 17, MAX}) {
            c.refused(BAD, "canvas", 20, rows);
        }
        c.refused(BAD, "canvas", 3, 17).refused(BAD, "canvas", 16, 40);
    }

    /** LABELS are gone: of the same size, of another one, of none; all else is left. */
    private static void canvasTakesLabels() {
        full().due(2, "told", 1).due(1, "canvas", 20, 8).due(0, "told", 1).due(BAD, "labelled", 0, 0);
        full().due(1, "canvas", 4, 2).due(0, "told", 1).due(1, "told", 0).due(4, "count", 0, 0)
            .due(1, "told", 4).due(2, "told", 5).due(10, "told", 8).due(NONE, "place", 1, 5);
        new Chart().due(1, "canvas", 40, 16).due(0, "told", 1).due(1, "canvas", 40, 16);
    }

    /** SCALES 0 and 1: there is no other. */
    private static void scalesAreTwo() {
        Chart c = full();
        for (int axis : new int[] {MIN, -1, 2, MAX}) {
            c.refused(BAD, "scale", axis, 0, 0, 10).refused(BAD, "cut", axis, 4, 5);
            c.refused(BAD, "fit", axis).refused(BAD, "place", axis, 5).refused(NO, "value", axis, 0);
            c.refused(BAD, "step", axis, 5).refused(NO, "tick", axis, 5, 0);
        }
        for (int axis = 0; axis <= 1; axis++) {
            new Chart().due(0, "scale", axis, 0, 0, 10).due(0, "cut", axis, 4, 5).due(0, "place", axis, 0)
                .due(0, "value", axis, 0).due(1, "step", axis, 11).due(0, "tick", axis, 11, 0);
        }
    }

    /** N = 2 COLUMNS, N = 4 ROWS: the last DOT is N - 1, and a DOT is 0 .. N - 1. */
    private static void dotsOfScales() {
        for (int[] size : new int[][] {{4, 2}, {20, 8}, {40, 16}, {4, 16}, {40, 2}}) {
            Chart c = new Chart().with("canvas", size[0], size[1]);
            for (int axis = 0; axis <= 1; axis++) {
                int n = axis == 0 ? 2 * size[0] : 4 * size[1];
                c.due(0, "place", axis, 0).due(n - 1, "place", axis, 10);
                c.due(0, "value", axis, 0).due(10, "value", axis, n - 1).due(NO, "value", axis, n);
                c.due(NO, "value", axis, -1).due(NO, "value", axis, MIN).due(NO, "value", axis, MAX);
            }
        }
    }

    /** A KIND by scale is STRAIGHT or REVERSED; the answer is the KIND that it had, 0 at first. */
    private static void kinds() {
        Chart c = full();
        for (int kind : new int[] {MIN, -1, 2, 3, MAX}) {
            c.refused(BAD, "scale", 0, kind, 0, 10).refused(BAD, "scale", 1, kind, 0, 10);
        }
        new Chart().due(0, "told", 4).due(0, "told", 5).due(0, "scale", 0, 1, 0, 10)
            .due(1, "scale", 0, 1, 0, 10).due(1, "cut", 0, 1, 2).due(2, "cut", 0, 1, 2)
            .due(2, "scale", 0, 0, 0, 10).due(0, "cut", 0, 1, 2).due(2, "scale", 0, 1, 0, 10)
            .due(1, "scale", 0, 0, 0, 10).due(0, "told", 5);
    }

    /** LOW below HIGH, 0 and 10 at first. */
    private static void lowBelowHigh() {
        new Chart().due(0, "told", 6).due(0, "told", 7).due(10, "told", 8).due(10, "told", 9);
        Chart c = full();
        for (int v : new int[] {-LIMIT, -1, 0, 5, LIMIT}) {
            c.refused(BAD, "scale", 0, 0, v, v).refused(BAD, "scale", 1, 1, v, v);
        }
        c.refused(BAD, "scale", 0, 0, 6, 5).refused(BAD, "scale", 0, 0, LIMIT, -LIMIT);
        new Chart().due(0, "scale", 0, 0, 5, 6).due(5, "told", 6).due(6, "told", 8)
            .due(0, "place", 0, 5).due(39, "place", 0, 6).due(NONE, "place", 0, 4).due(NONE, "place", 0, 7);
    }

    /** Both -1000000 .. 1000000. */
    private static void limitsOfLowAndHigh() {
        new Chart().due(0, "scale", 1, 0, -LIMIT, -LIMIT + 1).due(-LIMIT, "told", 7)
            .due(-LIMIT + 1, "told", 9).due(0, "scale", 1, 0, LIMIT - 1, LIMIT)
            .due(LIMIT - 1, "told", 7).due(LIMIT, "told", 9).due(0, "scale", 1, 1, -LIMIT, LIMIT);
        Chart c = full();
        for (int low : new int[] {MIN, MIN + 1, -LIMIT - 1}) {
            c.refused(BAD, "scale", 0, 0, low, 10).refused(BAD, "scale", 1, 0, low, LIMIT);
        }
        for (int high : new int[] {LIMIT + 1, MAX - 1, MAX}) {
            c.refused(BAD, "scale", 0, 0, 0, high).refused(BAD, "scale", 1, 0, -LIMIT, high);
        }
        c.refused(BAD, "scale", 0, 0, LIMIT, LIMIT + 1).refused(BAD, "scale", 0, 0, -LIMIT - 1, -LIMIT);
        c.refused(BAD, "scale", 0, 0, MIN, MAX).refused(BAD, "scale", 0, 0, MAX, MIN);
    }

    /** LOW < FROM < TO < HIGH; LOW and HIGH as they are. */
    private static void fromAndTo() {
        new Chart().due(0, "cut", 0, 1, 2).due(2, "told", 4).due(0, "told", 6).due(10, "told", 8);
        new Chart().due(0, "cut", 0, 8, 9).due(2, "cut", 0, 1, 9).due(2, "cut", 0, 5, 6)
            .due(0, "told", 5);
        Chart c = full();
        int[][] wrong = {{0, 5}, {-1, 5}, {MIN, 5}, {5, 10}, {5, 11}, {5, MAX}, {5, 5}, {6, 5},
            {0, 10}, {MIN, MAX}, {MAX, MIN}, {10, 11}, {-1, 0}};
        for (int[] w : wrong) {
            c.refused(BAD, "cut", 0, w[0], w[1]).refused(BAD, "cut", 1, w[0], w[1]);
        }
        new Chart().with("scale", 1, 0, -LIMIT, LIMIT).due(0, "cut", 1, -LIMIT + 1, LIMIT - 1)
            .refused(BAD, "cut", 1, -LIMIT, LIMIT - 1).refused(BAD, "cut", 1, -LIMIT + 1, LIMIT);
    }

    /** The least SCALE with room for FROM and TO has HIGH three above LOW. */
    private static void leastScaleThatCanBeCut() {
        Chart c = new Chart().with("canvas", 4, 2).with("scale", 0, 0, 5, 8).due(0, "cut", 0, 6, 7);
        // S is 2, N is 8: 2, 16, 16, 30 by 4.
        c.due(0, "place", 0, 5).due(4, "place", 0, 6).due(4, "place", 0, 7).due(7, "place", 0, 8);
        Chart less = new Chart().with("scale", 0, 0, 5, 7);
        for (int from = 4; from <= 8; from++) {
            for (int to = 4; to <= 8; to++) {
                less.refused(BAD, "cut", 0, from, to);
            }
        }
    }

    /** THE PLACE of a value: none, if it is below LOW, above HIGH. */
    private static void placesEnd() {
        for (int kind = 0; kind <= 1; kind++) {
            Chart c = new Chart().with("scale", 0, kind, -7, 70);
            c.due(kind == 0 ? 0 : 39, "place", 0, -7).due(kind == 0 ? 39 : 0, "place", 0, 70);
            for (int v : new int[] {MIN, MIN + 1, -LIMIT - 1, -8, 71, LIMIT, MAX - 1, MAX}) {
                c.due(NONE, "place", 0, v);
            }
        }
    }

    /** (2 a (N - 1) + S) / 2 S, rounded down: a half goes up; REVERSED: N - 1 less that. */
    private static void placesRound() {
        // N 8, S 14: (a + 1) / 2, so that each second value lies in the middle of two DOTS.
        int[] due = {0, 1, 1, 2, 2, 3, 3, 4, 4, 5, 5, 6, 6, 7, 7};
        for (int low : new int[] {0, -7, -LIMIT, LIMIT - 14}) {
            Chart c = new Chart().with("canvas", 4, 2).with("scale", 0, 0, low, low + 14)
                .with("scale", 1, 1, low, low + 14);
            for (int a = 0; a <= 14; a++) {
                c.due(due[a], "place", 0, low + a).due(7 - due[a], "place", 1, low + a);
            }
        }
        // S 1400: 100 is the middle of the first two DOTS.
        new Chart().with("canvas", 4, 2).with("scale", 0, 0, 0, 1400).due(0, "place", 0, 99)
            .due(1, "place", 0, 100).due(6, "place", 0, 1299).due(7, "place", 0, 1300);
    }

    /** The same of S 2000000 and N 80: no DOT is lost to the size of the numbers. */
    private static void placesOfTheGreatestScale() {
        Chart c = new Chart().with("canvas", 40, 16).with("scale", 0, 0, -LIMIT, LIMIT);
        // The first DOT ends with a 12658, for 158 a reaches 2000000 with 12659; the last begins so.
        c.due(0, "place", 0, -LIMIT).due(0, "place", 0, -987342).due(1, "place", 0, -987341);
        c.due(40, "place", 0, 0).due(39, "place", 0, -1);
        c.due(78, "place", 0, 987341).due(79, "place", 0, 987342).due(79, "place", 0, LIMIT);
        c.due(-LIMIT, "value", 0, 0).due(-987341, "value", 0, 1).due(0, "value", 0, 40);
        c.due(987342, "value", 0, 79);
        c.with("scale", 0, 1, -LIMIT, LIMIT).due(79, "place", 0, -987342).due(0, "place", 0, LIMIT);
        c.due(39, "place", 0, 0).due(987342, "value", 0, 0).due(-LIMIT, "value", 0, 79);
    }

    /** CUT: above FROM, below TO, too, there is none; S and a are TO - FROM less. */
    private static void placesOfCuts() {
        Chart c = new Chart().with("scale", 0, 0, 0, 10).with("cut", 0, 3, 7);
        c.due(20, "place", 0, 3).due(NONE, "place", 0, 4).due(NONE, "place", 0, 6).due(20, "place", 0, 7);
        c.due(0, "place", 0, 0).due(39, "place", 0, 10).due(NONE, "place", 0, -1).due(NONE, "place", 0, 11);
        c.due(NONE, "place", 0, MIN).due(NONE, "place", 0, MAX);
        // Right beside each other nothing is left out, but both have one PLACE.
        c = new Chart().with("cut", 0, 3, 4);
        // S is 9: 78 a + 9 by 18.
        int[] due = {0, 4, 9, 13, 13, 17, 22, 26, 30, 35, 39};
        for (int v = 0; v <= 10; v++) {
            c.due(due[v], "place", 0, v);
        }
        c = new Chart().with("scale", 1, 0, -LIMIT, LIMIT).with("cut", 1, -LIMIT + 1, LIMIT - 1);
        c.due(0, "place", 1, -LIMIT).due(16, "place", 1, -LIMIT + 1).due(NONE, "place", 1, -LIMIT + 2);
        c.due(NONE, "place", 1, LIMIT - 2).due(16, "place", 1, LIMIT - 1).due(31, "place", 1, LIMIT);
    }

    /** The least value whose PLACE is a DOT's; NO: none has it. */
    private static void leastValueOfSeveral() {
        Chart c = new Chart().with("canvas", 4, 2).with("scale", 0, 0, 0, 14).with("scale", 1, 1, 0, 14);
        int[] due = {0, 1, 3, 5, 7, 9, 11, 13};
        for (int dot = 0; dot < 8; dot++) {
            c.due(due[dot], "value", 0, dot).due(due[7 - dot], "value", 1, dot);
        }
        c = new Chart().with("canvas", 4, 2).with("scale", 0, 0, 0, 1).with("scale", 1, 1, -1, 0);
        c.due(0, "value", 0, 0).due(1, "value", 0, 7).due(0, "value", 1, 0).due(-1, "value", 1, 7);
        for (int dot = 1; dot < 7; dot++) {
            c.due(NO, "value", 0, dot).due(NO, "value", 1, dot);
        }
    }

    /** Of FROM and TO, which have one PLACE, FROM is the least. */
    private static void valuesOfCuts() {
        Chart c = new Chart().with("canvas", 4, 2).with("scale", 0, 0, 5, 8).with("cut", 0, 6, 7);
        int[] due = {5, NO, NO, NO, 6, NO, NO, 8};
        for (int dot = 0; dot < 8; dot++) {
            c.due(due[dot], "value", 0, dot);
        }
        // S is 14: a is 0 .. 7 up to FROM, and 7 .. 14 from TO on.
        c = new Chart().with("canvas", 4, 2).with("scale", 0, 0, 0, 107).with("cut", 0, 7, 100);
        int[] many = {0, 1, 3, 5, 7, 102, 104, 106};
        for (int dot = 0; dot < 8; dot++) {
            c.due(many[dot], "value", 0, dot);
        }
        c.due(4, "place", 0, 7).due(4, "place", 0, 100).due(4, "place", 0, 101).due(5, "place", 0, 102);
    }

    /** TICKS, m at most (2 .. 20): m of them are no more than m, one more are. */
    private static void ticksAtMost() {
        for (int m = 2; m <= 20; m++) {
            new Chart().with("scale", 0, 0, 1, m).due(1, "step", 0, m).due(m, "tick", 0, m, m - 1)
                .due(NO, "tick", 0, m, m).with("scale", 0, 0, 1, m + 1).due(2, "step", 0, m)
                .due(2, "tick", 0, m, 0);
        }
        Chart c = full();
        for (int m : new int[] {MIN, -2, 0, 1, 21, 22, MAX}) {
            c.refused(BAD, "step", 0, m).refused(NO, "tick", 0, m, 0);
            c.refused(BAD, "step", 1, m).refused(NO, "tick", 1, m, 0);
        }
    }

    /** Values have a PLACE at FROM and at TO, and none between. */
    private static void ticksOfCuts() {
        Chart c = new Chart().with("scale", 0, 0, 0, 100).with("cut", 0, 2, 98);
        // By 1: 0 1 2 98 99 100. By 2: 0 2 98 100. By 5: 0 100.
        c.due(1, "step", 0, 6).due(2, "step", 0, 5).due(2, "step", 0, 4).due(5, "step", 0, 3);
        c.due(5, "step", 0, 2);
        int[] due = {0, 1, 2, 98, 99, 100, NO};
        for (int k = 0; k < due.length; k++) {
            c.due(due[k], "tick", 0, 6, k).due(due[k], "tick", 0, 20, k);
        }
        c.due(0, "tick", 0, 2, 0).due(100, "tick", 0, 2, 1).due(NO, "tick", 0, 2, 2);
        c.with("scale", 0, 0, 1, 101).with("cut", 0, 4, 96);
        // By 5: 100 alone, for 5 and 95 are left out.
        c.due(5, "step", 0, 2).due(100, "tick", 0, 2, 0).due(NO, "tick", 0, 2, 1);
    }

    /** No value at all is no more than m, too. */
    private static void noTicks() {
        Chart c = new Chart().with("scale", 0, 0, 1, 9).with("cut", 0, 4, 6);
        // By 1 there are 8, by 2 there are 4, and 5 is left out.
        c.due(1, "step", 0, 8).due(2, "step", 0, 7).due(2, "step", 0, 4).due(5, "step", 0, 3);
        c.due(5, "step", 0, 2).due(NO, "tick", 0, 2, 0).due(NO, "tick", 0, 3, 0).due(2, "tick", 0, 4, 0);
        c.due(NO, "tick", 0, 2, -1).due(NO, "tick", 0, 2, MAX);
    }

    /** 1, 2, 2.5, 5 times powers of ten, whole ones: no 2.5, but 25. */
    private static void stepsAreWhole() {
        new Chart().with("scale", 0, 0, 0, 5).due(2, "step", 0, 3).due(5, "step", 0, 2)
            .with("scale", 0, 0, 0, 8).due(2, "step", 0, 5).due(5, "step", 0, 4)
            .with("scale", 0, 0, 0, 50).due(20, "step", 0, 3).due(50, "step", 0, 2)
            .with("scale", 0, 0, 0, 60).due(20, "step", 0, 4).due(25, "step", 0, 3)
            .with("scale", 0, 0, 0, 600).due(200, "step", 0, 4).due(250, "step", 0, 3);
    }

    /** The greatest steps, of SCALES as wide as they get. */
    private static void theGreatestSteps() {
        new Chart().with("scale", 0, 0, -LIMIT, LIMIT).due(2000000, "step", 0, 2)
            .due(0, "tick", 0, 2, 0).due(NO, "tick", 0, 2, 1).due(1000000, "step", 0, 3)
            .due(1000000, "step", 0, 4).due(500000, "step", 0, 5).due(200000, "step", 0, 20)
            .due(-LIMIT, "tick", 0, 20, 0).due(800000, "tick", 0, 20, 9).due(LIMIT, "tick", 0, 20, 10)
            .due(NO, "tick", 0, 20, 11);
        new Chart().with("scale", 0, 0, 0, LIMIT).due(1000000, "step", 0, 2).due(0, "tick", 0, 2, 0)
            .due(LIMIT, "tick", 0, 2, 1).due(NO, "tick", 0, 2, 2);
        new Chart().with("scale", 0, 0, -LIMIT, 0).due(1000000, "step", 0, 2)
            .due(-LIMIT, "tick", 0, 2, 0).due(0, "tick", 0, 2, 1).due(NO, "tick", 0, 2, 2);
        new Chart().with("scale", 0, 0, -LIMIT, -1).due(500000, "step", 0, 2)
            .due(-LIMIT, "tick", 0, 2, 0).due(-500000, "tick", 0, 2, 1).due(NO, "tick", 0, 2, 2);
    }

    /** The k-th of these TICKS, from the least on; NO: none such. */
    private static void ticksInTurn() {
        for (int kind = 0; kind <= 1; kind++) {
            Chart c = new Chart().with("scale", 1, kind, -11, 19).due(5, "step", 1, 6);
            int[] due = {-10, -5, 0, 5, 10, 15, NO};
            for (int k = 0; k < due.length; k++) {
                c.due(due[k], "tick", 1, 6, k);
            }
            c.due(NO, "tick", 1, 6, -1).due(NO, "tick", 1, 6, MIN).due(NO, "tick", 1, 6, MAX);
        }
        new Chart().with("scale", 1, 0, -9, 10).due(-9, "tick", 1, 20, 0).due(10, "tick", 1, 20, 19)
            .due(NO, "tick", 1, 20, 20);
    }

    /** STATE: there are no POINTS but GAPS. */
    private static void fitOfNothing() {
        Chart c = new Chart().with("cut", 0, 3, 7).with("scale", 1, 1, -5, 5);
        c.refused(STATE, "fit", 0).refused(STATE, "fit", 1);
        c.with("series", 4, 0, 65).with("series", 0, 0, 65).refused(STATE, "fit", 0).refused(STATE, "fit", 1);
        c.with("gap", 0).with("gap", 0).with("gap", 1).refused(STATE, "fit", 0).refused(STATE, "fit", 1);
        c.with("point", 1, 4, 4, 1).with("drop", 1).refused(STATE, "fit", 0).refused(STATE, "fit", 1);
        // A GAP behind a POINT that was dropped has nothing of it.
        c.with("point", 1, 4, 4, 1).with("drop", 1).with("gap", 1).refused(STATE, "fit", 0);
        c.with("point", 0, 4, 4, 1).due(1, "fit", 0).due(4, "told", 6).due(5, "told", 8);
        c.due(1, "fit", 1).due(3, "told", 7).due(5, "told", 9);
    }

    /** The least, the greatest value of POINTS of all SERIES, also of those that are not SEEN. */
    private static void fitOfAll() {
        Chart c = new Chart();
        for (int series = 0; series < 6; series++) {
            c.with("series", series % 5, 0, 65);
            for (int point = 0; point < 24; point++) {
                c.with("point", series, 100 * series + point, 1000 * series + point, 7);
            }
        }
        c.due(1, "fit", 0).due(0, "told", 6).due(523, "told", 8);
        c.due(1, "fit", 1).due(-7, "told", 7).due(5030, "told", 9);
        c.with("drop", 5).due(1, "fit", 0).due(522, "told", 8).due(1, "fit", 1).due(5029, "told", 9);
        // What a GAP is does not count, where all POINTS lie on one side of 0.
        new Chart().with("series", 0, 0, 65).with("gap", 0).with("point", 0, 50, -50, 1)
            .with("point", 0, 60, -60, 1).with("gap", 0).due(1, "fit", 0).due(50, "told", 6)
            .due(60, "told", 8).due(1, "fit", 1).due(-61, "told", 7).due(-49, "told", 9);
    }

    /** HIGH one more if they are alike; STATE: HIGH would be 1000001. */
    private static void fitOfAlike() {
        for (int v : new int[] {-LIMIT, -1, 0, 7, LIMIT - 1}) {
            Chart c = new Chart().with("series", 0, 0, 65).with("point", 0, v, v, 0).with("point", 0, v, v, 0);
            c.due(1, "fit", 0).due(v, "told", 6).due(v + 1, "told", 8);
            c.due(1, "fit", 1).due(v, "told", 7).due(v + 1, "told", 9);
        }
        Chart c = full().with("series", 4, 0, 65).with("drop", 0).with("drop", 0).with("drop", 0).with("drop", 0);
        c.with("point", 0, LIMIT, 5, 0).refused(STATE, "fit", 0).due(1, "fit", 1).due(6, "told", 9);
        c.with("drop", 0).with("point", 1, 5, LIMIT, 0).refused(STATE, "fit", 1).due(1, "fit", 0).due(6, "told", 8);
        // By e they are not alike, though HIGH is at its limit.
        c.with("drop", 1).with("point", 1, 5, LIMIT, 1).due(1, "fit", 1).due(LIMIT - 1, "told", 7)
            .due(LIMIT, "told", 9);
        c.with("point", 1, LIMIT, 0, 0).due(1, "fit", 0).due(5, "told", 6).due(LIMIT, "told", 8);
    }

    /** x; y less e, y and e, within -1000000 .. 1000000. */
    private static void fitWithinTheLimits() {
        int[][] due = {{-LIMIT, 1, -LIMIT, -LIMIT + 1}, {-LIMIT + 1, 1, -LIMIT, -LIMIT + 2},
            {-LIMIT + 2, 1, -LIMIT + 1, -LIMIT + 3}, {LIMIT, 1, LIMIT - 1, LIMIT},
            {LIMIT - 1, 1, LIMIT - 2, LIMIT}, {LIMIT - 2, 1, LIMIT - 3, LIMIT - 1},
            {0, LIMIT, -LIMIT, LIMIT}, {LIMIT, LIMIT, 0, LIMIT}, {-LIMIT, LIMIT, -LIMIT, 0},
            {1, LIMIT, -LIMIT + 1, LIMIT}, {-1, LIMIT, -LIMIT, LIMIT - 1}};
        for (int mark = 0; mark <= 4; mark++) {
            for (int[] d : due) {
                new Chart().with("series", mark, 0, 65).with("point", 0, 3, d[0], d[1])
                    .due(1, "fit", 1).due(d[2], "told", 7).due(d[3], "told", 9)
                    .due(1, "fit", 0).due(3, "told", 6).due(4, "told", 8);
            }
        }
    }

    /** A SCALE becomes STRAIGHT, whatever it was; the other one is left. */
    private static void fitMakesStraight() {
        Chart c = new Chart().with("series", 0, 0, 65).with("point", 0, 0, 0, 0).with("point", 0, 10, 10, 0);
        c.with("cut", 0, 3, 7).with("scale", 1, 1, 0, 10);
        c.due(1, "fit", 0).due(0, "told", 4).due(1, "told", 5).due(20, "place", 0, 5);
        c.due(1, "fit", 1).due(0, "told", 5).due(31, "place", 1, 10).due(0, "cut", 1, 3, 7);
        c.due(1, "fit", 1).due(16, "place", 1, 5).due(0, "scale", 1, 0, 0, 10);
    }
}
