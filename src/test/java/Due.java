/** Counts answers that are as due, and prints those that are not. */
final class Due {
    private static int right = 0;
    private static int wrong = 0;

    private Due() {
    }

    static void is(String call, long got, long want) {
        if (got == want) {
            right++;
            return;
        }
        wrong++;
        System.out.println(call + " answered " + got + ", due is " + want);
    }

    static void holds(String what, boolean so) {
        is(what, so ? 1 : 0, 1);
    }

    /** All that an object tells without being changed: refused calls must leave it alike. */
    static String picture(SignCharts c) {
        StringBuilder all = new StringBuilder();
        for (int what = 0; what <= 9; what++) {
            all.append(c.told(what)).append(' ');
        }
        for (int series = 0; series < c.told(0); series++) {
            for (int what = 0; what <= 4; what++) {
                all.append(c.count(series, what)).append(' ');
            }
            for (int point = 0; point < c.count(series, 0); point++) {
                for (int what = 0; what <= 4; what++) {
                    all.append(c.about(series, point, what)).append(' ');
                }
            }
        }
        for (int label = 0; label < c.told(1); label++) {
            for (int what = 0; what <= 4; what++) {
                all.append(c.labelled(label, what)).append(' ');
            }
        }
        for (int v = -2; v <= 12; v++) {
            all.append(c.place(0, v)).append(' ').append(c.place(1, v)).append(' ');
        }
        for (int row = 0; row < c.told(3); row++) {
            for (int column = 0; column < c.told(2); column++) {
                all.append(c.shown(column, row)).append(' ');
                all.append(c.hit(column, row, 0)).append(' ');
            }
        }
        return all.append(c.digest()).toString();
    }

    static void refused(SignCharts c, String call, long got, long want, String before) {
        is(call, got, want);
        holds(call + " changes nothing", picture(c).equals(before));
    }

    static void end() {
        if (right + wrong == 0) {
            System.out.println("nothing was tested");
            System.exit(1);
        }
        if (wrong != 0) {
            System.out.println(wrong + " of " + (right + wrong) + " answers are not as due");
            System.exit(1);
        }
        System.out.println(right + " answers are as due");
    }
}
