/** All that a chart tells: two charts with one picture are in one state. */
final class Picture {
    private static final int NONE = SignCharts.NONE;
    // Any value that is as told will do: the chart is not used after it.
    private static final int[] SOME_STYLE = {0, 0, 33};

    private final Chart of;
    private final StringBuilder text = new StringBuilder();
    private final Asked asked;

    private Picture(Chart of) {
        this.of = of;
        asked = new Asked(of);
    }

    static String of(Chart chart) {
        Picture picture = new Picture(chart);
        picture.askScales();
        picture.askSeries();
        picture.askLabels();
        picture.askCells();
        return picture.text.toString();
    }

    private long ask(String name, int... args) {
        long answer = asked.ask(name, args);
        text.append(answer).append(' ');
        return answer;
    }

    private void askScales() {
        for (int what = 0; what <= 9; what++) {
            ask("told", what);
        }
        for (int axis = 0; axis <= 1; axis++) {
            // FROM and TO are seen by the values that have places, and by the ticks.
            for (int v = -2; v <= 12; v++) {
                ask("place", axis, v);
            }
            for (int dot = 0; dot < 80; dot++) {
                ask("value", axis, dot);
            }
            for (int k = 0; k < 20; k++) {
                ask("tick", axis, 20, k);
            }
        }
    }

    private void askSeries() {
        long many = ask("told", 0);
        for (int series = 0; series < many; series++) {
            for (int what = 0; what <= 4; what++) {
                ask("count", series, what);
                ask("five", series, what);
            }
            for (int what = 0; what <= 2; what++) {
                askStyle(series, what);
            }
            long points = ask("count", series, 0);
            for (int point = 0; point < points; point++) {
                for (int what = 0; what <= 4; what++) {
                    ask("about", series, point, what);
                }
            }
        }
    }

    /** Style tells what it was only by changing it, so a chart of its own is asked. */
    private void askStyle(int series, int what) {
        text.append(of.again().call("style", series, what, SOME_STYLE[what])).append(' ');
    }

    private void askLabels() {
        long many = ask("told", 1);
        for (int label = 0; label < many; label++) {
            for (int what = 0; what <= 4; what++) {
                ask("labelled", label, what);
            }
        }
    }

    private void askCells() {
        long columns = ask("told", 2);
        long rows = ask("told", 3);
        for (int row = 0; row < rows; row++) {
            for (int column = 0; column < columns; column++) {
                ask("at", column, row);
                ask("shown", column, row);
                // 6 series of 24 points have 144 hits at most.
                for (int k = 0; k <= 144 && ask("hit", column, row, k) != NONE; k++) {
                    text.append(',');
                }
            }
        }
    }
}
