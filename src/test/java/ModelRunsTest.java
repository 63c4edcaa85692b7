import java.util.Random;

/** Long runs of calls, the same ones each time, held against PlainModel. */
public final class ModelRunsTest {
    private static final int RUNS = 400, CALLS = 512;
    private static final int[] STRANGE = {Integer.MIN_VALUE, Integer.MAX_VALUE, -1000001, 1000001,
        -1000000, 1000000, -2000000000, -1, 0, 1, 24, 2, 1 << 30, -(1 << 30)};

    private final Random random;
    private final SignCharts c = new SignCharts();
    private final PlainModel m = new PlainModel();
    // Wide scales are dear for the model, which looks for values one by one.
    private final int width;
    private final String run;

    private ModelRunsTest(int seed) {
        random = new Random(seed);
        width = seed % 8 == 0 ? 1000000 : seed % 2 == 0 ? 30 : 300;
        run = "run " + seed + ", call ";
    }

    public static void main(String[] args) {
        for (int seed = 0; seed < RUNS; seed++) {
            ModelRunsTest test = new ModelRunsTest(seed);
            for (int call = 0; call < CALLS; call++) {
                test.call(call);
            }
        }
        Due.end();
    }

    private boolean strange() {
        return random.nextInt(60) == 0;
    }

    private int pick(int least, int most) {
        return strange() ? STRANGE[random.nextInt(STRANGE.length)] : least + random.nextInt(most - least + 1);
    }

    private int v() {
        return pick(-width, width);
    }

    private int serNo() {
        return pick(0, Math.max(0, m.told(0) - 1));
    }

    private int ptNo(int series) {
        return pick(0, Math.max(0, m.count(series, 0) - 1));
    }

    private void call(int number) {
        String name = run + number;
        int kind = random.nextInt(100);
        if (kind < 14) {
            shape(name, random.nextInt(12));
        } else if (kind < 50) {
            points(name, random.nextInt(12));
        } else if (kind < 62) {
            scales(name, random.nextInt(4));
        } else if (kind < 72) {
            facts(name, random.nextInt(3));
        } else if (kind < 88) {
            drawn(name, random.nextInt(6));
        } else {
            labels(name, random.nextInt(8));
        }
    }

    private void shape(String name, int which) {
        int axis = pick(0, 1);
        int a = v();
        int b = v();
        int low = Math.min(a, b);
        int high = Math.max(a, b);
        if (which == 0) {
            int columns = pick(3, 41);
            int rows = pick(1, 17);
            Due.is(name + " canvas", c.canvas(columns, rows), m.canvas(columns, rows));
        } else if (which < 4) {
            int kind = pick(0, 1);
            Due.is(name + " scale", c.scale(axis, kind, low, high), m.scale(axis, kind, low, high));
        } else if (which < 7) {
            Due.is(name + " cut", c.cut(axis, low, high), m.cut(axis, low, high));
        } else if (which < 9) {
            Due.is(name + " fit", c.fit(axis), m.fit(axis));
        } else {
            int series = serNo();
            int what = pick(0, 2);
            int style = what == 0 ? pick(0, 4) : what == 1 ? pick(0, 9) : pick(33, 126);
            Due.is(name + " style", c.style(series, what, style), m.style(series, what, style));
        }
    }

    private void points(String name, int which) {
        int series = serNo();
        if (which == 0) {
            int mark = pick(0, 4);
            int layer = pick(0, 9);
            int sign = pick(33, 126);
            Due.is(name + " series", c.series(mark, layer, sign), m.series(mark, layer, sign));
        } else if (which < 9) {
            int x = v();
            int y = v();
            int e = Math.abs(v() / 4);
            Due.is(name + " point", c.point(series, x, y, e), m.point(series, x, y, e));
        } else if (which < 10) {
            Due.is(name + " gap", c.gap(series), m.gap(series));
        } else {
            Due.is(name + " drop", c.drop(series), m.drop(series));
        }
    }

    private void scales(String name, int which) {
        int axis = pick(0, 1);
        int ticks = pick(2, 20);
        int k = pick(-1, 20);
        int v = v();
        int dot = pick(-1, 80);
        switch (which) {
            case 0: Due.is(name + " place", c.place(axis, v), m.place(axis, v)); break;
            case 1: Due.is(name + " value", c.value(axis, dot), m.value(axis, dot)); break;
            case 2: Due.is(name + " step", c.step(axis, ticks), m.step(axis, ticks)); break;
            default: Due.is(name + " tick", c.tick(axis, ticks, k), m.tick(axis, ticks, k)); break;
        }
    }

    private void facts(String name, int which) {
        int series = serNo();
        int what = pick(0, 4);
        int point = ptNo(series);
        switch (which) {
            case 0: Due.is(name + " about", c.about(series, point, what), m.about(series, point, what)); break;
            case 1: Due.is(name + " count", c.count(series, what), m.count(series, what)); break;
            default: Due.is(name + " five", c.five(series, what), m.five(series, what)); break;
        }
    }

    private void drawn(String name, int which) {
        int column = pick(0, m.told(2));
        int row = pick(0, m.told(3));
        int k = pick(0, 3);
        switch (which) {
            case 0: Due.is(name + " at", c.at(column, row), m.at(column, row)); break;
            case 1: Due.is(name + " shown", c.shown(column, row), m.shown(column, row)); break;
            case 2: Due.is(name + " inked", c.inked(), m.inked()); break;
            case 3: Due.is(name + " digest", c.digest(), m.digest()); break;
            default: Due.is(name + " hit", c.hit(column, row, k), m.hit(column, row, k)); break;
        }
    }

    private void labels(String name, int which) {
        int series = serNo();
        int point = ptNo(series);
        int length = pick(1, 10);
        int what = pick(0, 9);
        if (which < 5) {
            Due.is(name + " label", c.label(series, point, length), m.label(series, point, length));
        } else if (which == 5) {
            int label = pick(0, Math.max(0, m.told(1)));
            Due.is(name + " labelled", c.labelled(label, what / 2), m.labelled(label, what / 2));
        } else if (which == 6) {
            int w = pick(1, m.told(2));
            int h = pick(1, m.told(3));
            Due.is(name + " legend", c.legend(w, h), m.legend(w, h));
        } else {
            Due.is(name + " told", c.told(what), m.told(what));
        }
    }
}
