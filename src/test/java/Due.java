/** Counts answers that are as due, and prints those that are not. */
final class Due {
    private static int right = 0;
    private static int wrong = 0;

    private Due() {
    }

    static void is(String call, long got, long want) {
        if (got == want) {
            right++;
            return;
        }
        wrong++;
        System.out.println(call + " answered " + got + ", due is " + want);
    }

    static void holds(String what, boolean so) {
        is(what, so ? 1 : 0, 1);
    }

    static void refused(Chart c, String call, long got, long want, String before) {
        is(call, got, want);
        holds(call + " changes nothing", Picture.of(c).equals(before));
    }

    static void end() {
        if (right + wrong == 0) {
            System.out.println("nothing was tested");
            System.exit(1);
        }
        if (wrong != 0) {
            System.out.println(wrong + " of " + (right + wrong) + " answers are not as due");
            System.exit(1);
        }
        System.out.println(right + " answers are as due");
    }
}
