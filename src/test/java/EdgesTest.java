import java.util.List;
import java.util.Set;
import java.util.TreeSet;

/**
 * Each call in each of some states, with each argument at its edges and just beyond, all of them
 * with each other, and held against PlainModel: what is refused, by which of the refusals, and that
 * nothing changes by it.
 */
public final class EdgesTest {
    private static final int LIMIT = 1000000;
    private static final Set<Long> REFUSALS = Set.of((long) SignCharts.BAD, (long) SignCharts.STATE,
        (long) SignCharts.FULL, (long) SignCharts.NONE, (long) SignCharts.NO);
    private static final Set<String> CHANGES = Set.of("canvas", "scale", "cut", "fit", "series", "style",
        "point", "gap", "drop", "label");

    private interface Answers {
        long call(String name, int... args);
    }

    private final String state;
    private final Chart chart = new Chart();
    private final PlainModel model = new PlainModel();
    private String brief;

    private EdgesTest(String state) {
        this.state = state;
    }

    public static void main(String[] args) {
        new EdgesTest("new").go();
        new EdgesTest("no points").does("series", 1, 0, 33).go();
        new EdgesTest("gaps alone").does("series", 2, 9, 126).does("gap", 0).does("gap", 0).go();
        new EdgesTest("one point").does("series", 0, 0, 33).does("point", 0, 5, 5, 2).go();
        new EdgesTest("none seen").does("series", 4, 0, 33).does("point", 0, 11, 5, LIMIT)
            .does("point", 0, 5, -1, 0).go();
        least().go();
        widest().go();
        cut().go();
        full(18).go();
        full(20).go();
        Due.end();
    }

    private static EdgesTest least() {
        return new EdgesTest("least canvas").does("canvas", 4, 2).does("scale", 0, 1, -1, 0)
            .does("scale", 1, 1, 0, 1).does("series", 3, 5, 40).does("point", 0, -1, 0, 0)
            .does("series", 1, 5, 41).does("point", 1, 0, 1, 0).does("label", 1, 0, 1);
    }

    private static EdgesTest widest() {
        return new EdgesTest("widest scales").does("canvas", 40, 16).does("scale", 0, 0, -LIMIT, LIMIT)
            .does("scale", 1, 1, -LIMIT, LIMIT).does("series", 4, 5, 40).does("point", 0, LIMIT, LIMIT, 0)
            .does("gap", 0).does("point", 0, -LIMIT, 0, LIMIT).does("label", 0, 2, 10);
    }

    private static EdgesTest cut() {
        return new EdgesTest("cut scales").does("cut", 0, 3, 7).does("scale", 1, 0, 1, 9).does("cut", 1, 4, 6)
            .does("series", 2, 5, 40).does("point", 0, 3, 4, 1).does("point", 0, 7, 6, 2)
            .does("point", 0, 5, 6, 0).does("point", 0, 9, 9, 9).does("label", 0, 0, 2).does("label", 0, 1, 2);
    }

    /** Six series of 24 points and gaps, and so many labels. */
    private static EdgesTest full(int labels) {
        EdgesTest test = new EdgesTest("full, " + labels + " labels").does("canvas", 40, 16)
            .does("scale", 0, 0, 0, 79).does("scale", 1, 0, 0, 63);
        for (int series = 0; series < 6; series++) {
            test.does("series", series % 5, series, 40 + series);
            for (int point = 0; point < 24; point++) {
                if (series > 0 && point % 5 == 4) {
                    test.does("gap", series);
                } else {
                    test.does("point", series, series == 0 ? 40 : 3 * point, series == 0 ? 2 * point + 16 : 2, 1);
                }
            }
        }
        for (int point = 23; point >= 4 && test.model.told(1) < labels; point--) {
            for (int time = 0; time < 2 && test.model.told(1) < labels; time++) {
                test.does("label", 0, point, 10);
            }
        }
        for (int point = 23; point >= 0 && test.model.told(1) < labels; point--) {
            test.does("label", 0, point, 1);
        }
        Due.is("LABELS of " + test.state, test.model.told(1), labels);
        return test;
    }

    private EdgesTest does(String name, int... args) {
        Due.is(state + ": " + Calls.text(name, args), chart.call(name, args), Calls.answer(model, name, args));
        return this;
    }

    private void go() {
        brief = brief(chart.again()::call);
        int columns = model.told(2);
        int rows = model.told(3);
        int[] axis = edges(0, 1);
        int[] series = edges(0, model.told(0) - 1);
        int[] points = edges(0, model.count(0, 0) - 1);
        scales(axis);
        int[] styles = {Integer.MIN_VALUE, -1, 0, 4, 5, 9, 10, 32, 33, 126, 127, Integer.MAX_VALUE};
        each("series", edges(0, 4), edges(0, 9), edges(33, 126));
        each("style", series, edges(0, 2), styles);
        each("point", series, edges(-LIMIT, LIMIT), edges(-LIMIT, LIMIT), edges(0, LIMIT));
        each("gap", series);
        each("drop", series);
        each("about", series, points, edges(0, 4));
        each("count", series, edges(0, 4));
        each("five", series, edges(0, 4));
        each("at", edges(0, columns - 1), edges(0, rows - 1));
        each("shown", edges(0, columns - 1), edges(0, rows - 1));
        each("hit", edges(0, columns - 1), edges(0, rows - 1), edges(0, 1));
        each("inked");
        each("digest");
        each("label", series, points, edges(1, 10));
        each("labelled", edges(0, model.told(1) - 1), edges(0, 4));
        each("legend", edges(1, columns), edges(1, rows));
        each("told", edges(0, 9));
    }

    private void scales(int[] axis) {
        each("canvas", edges(4, 40), edges(2, 16));
        each("scale", axis, edges(0, 1), edges(-LIMIT, LIMIT - 1), edges(-LIMIT + 1, LIMIT));
        each("fit", axis);
        each("step", axis, edges(2, 20));
        each("tick", axis, edges(2, 20), edges(0, 19));
        for (int which = 0; which <= 1; which++) {
            int low = model.told(6 + which);
            int high = model.told(8 + which);
            int[] one = {which};
            each("cut", one, edges(low + 1, high - 2), edges(low + 2, high - 1));
            each("place", one, edges(low, high));
            each("value", one, edges(0, which == 0 ? 2 * model.told(2) - 1 : 4 * model.told(3) - 1));
        }
        each("cut", axis, new int[] {3}, new int[] {5});
        each("place", axis, new int[] {0});
        each("value", axis, new int[] {0});
    }

    /** The first and the last that are as told, those before and behind them, the least and the greatest int. */
    private static int[] edges(int first, int last) {
        TreeSet<Integer> edges = new TreeSet<>();
        edges.addAll(List.of(Integer.MIN_VALUE, first - 1, first, last, last + 1, Integer.MAX_VALUE));
        return edges.stream().mapToInt(v -> v).toArray();
    }

    private void each(String name, int[]... choices) {
        int many = 1;
        for (int[] choice : choices) {
            many *= choice.length;
        }
        int[] args = new int[choices.length];
        for (int i = 0; i < many; i++) {
            int left = i;
            for (int arg = 0; arg < args.length; arg++) {
                args[arg] = choices[arg][left % choices[arg].length];
                left /= choices[arg].length;
            }
            one(name, args.clone());
        }
    }

    private void one(String name, int[] args) {
        String call = state + ": " + Calls.text(name, args);
        Chart like = chart.again();
        PlainModel due = model.copy();
        long want = Calls.answer(due, name, args);
        Due.is(call, like.call(name, args), want);
        boolean changes = CHANGES.contains(name) && !REFUSALS.contains(want);
        String after = changes ? brief((asked, with) -> Calls.answer(due, asked, with)) : brief;
        Due.holds(call + " leaves what is due", brief(like::call).equals(after));
    }

    /** Enough to see most changes by: Picture tells all, but is too slow for so many calls. */
    private static String brief(Answers chart) {
        StringBuilder text = new StringBuilder();
        for (int what = 0; what <= 9; what++) {
            text.append(chart.call("told", what)).append(' ');
        }
        long series = chart.call("told", 0);
        for (int i = 0; i < series; i++) {
            for (int what = 0; what <= 4; what++) {
                text.append(chart.call("count", i, what)).append(' ');
            }
        }
        for (int axis = 0; axis <= 1; axis++) {
            text.append(chart.call("step", axis, 20)).append(' ').append(chart.call("place", axis, 5)).append(' ');
        }
        return text.append(chart.call("digest")).toString();
    }
}
