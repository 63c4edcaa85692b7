import java.util.ArrayList;
import java.util.List;

/**
 * A SignCharts as the tests use it. It takes no more than the 512 calls that anything is promised
 * about, and keeps them, so that its like can be made anew by the same calls.
 */
final class Chart {
    static final int MOST_CALLS = 512;

    private final SignCharts chart = new SignCharts();
    private final List<String> names = new ArrayList<>();
    private final List<int[]> arguments = new ArrayList<>();

    long call(String name, int... args) {
        if (left() == 0) {
            throw new IllegalStateException("the test calls one object more than 512 times");
        }
        names.add(name);
        arguments.add(args);
        return Calls.answer(chart, name, args);
    }

    /** How many calls are left. */
    int left() {
        return MOST_CALLS - names.size();
    }

    Chart again() {
        Chart like = new Chart();
        for (int i = 0; i < names.size(); i++) {
            like.call(names.get(i), arguments.get(i));
        }
        return like;
    }

    /** A call that is there for what comes after it. */
    Chart with(String name, int... args) {
        call(name, args);
        return this;
    }

    Chart due(long want, String name, int... args) {
        Due.is(Calls.text(name, args), call(name, args), want);
        return this;
    }

    /** A call that has this answer and changes nothing; it is made on one like this, not on this. */
    Chart refused(long want, String name, int... args) {
        Chart like = again();
        like.due(want, name, args);
        Due.holds(Calls.text(name, args) + " changes nothing", Picture.of(like).equals(Picture.of(this)));
        return this;
    }

    int canvas(int columns, int rows) {
        return (int) call("canvas", columns, rows);
    }

    int scale(int axis, int kind, int low, int high) {
        return (int) call("scale", axis, kind, low, high);
    }

    int cut(int axis, int from, int to) {
        return (int) call("cut", axis, from, to);
    }

    int fit(int axis) {
        return (int) call("fit", axis);
    }

    int place(int axis, int v) {
        return (int) call("place", axis, v);
    }

    int value(int axis, int dot) {
        return (int) call("value", axis, dot);
    }

    int step(int axis, int m) {
        return (int) call("step", axis, m);
    }

    int tick(int axis, int m, int k) {
        return (int) call("tick", axis, m, k);
    }

    int series(int mark, int layer, int sign) {
        return (int) call("series", mark, layer, sign);
    }

    int style(int series, int what, int v) {
        return (int) call("style", series, what, v);
    }

    int point(int series, int x, int y, int e) {
        return (int) call("point", series, x, y, e);
    }

    int gap(int series) {
        return (int) call("gap", series);
    }

    int drop(int series) {
        return (int) call("drop", series);
    }

    int about(int series, int point, int what) {
        return (int) call("about", series, point, what);
    }

    int count(int series, int what) {
        return (int) call("count", series, what);
    }

    int five(int series, int k) {
        return (int) call("five", series, k);
    }

    int at(int column, int row) {
        return (int) call("at", column, row);
    }

    int shown(int column, int row) {
        return (int) call("shown", column, row);
    }

    int hit(int column, int row, int k) {
        return (int) call("hit", column, row, k);
    }

    int inked() {
        return (int) call("inked");
    }

    long digest() {
        return call("digest");
    }

    int label(int series, int point, int length) {
        return (int) call("label", series, point, length);
    }

    int labelled(int label, int what) {
        return (int) call("labelled", label, what);
    }

    int legend(int w, int h) {
        return (int) call("legend", w, h);
    }

    int told(int what) {
        return (int) call("told", what);
    }
}
