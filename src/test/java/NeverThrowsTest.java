import java.util.Random;

/**
 * No call throws or fails to end, for any arguments in any state: also beyond the 512th call, where
 * what is answered is free.
 */
public final class NeverThrowsTest {
    private static final int OBJECTS = 40, CALLS = 4000;
    private static final String[] NAMES = {"canvas", "scale", "cut", "fit", "place", "value", "step", "tick",
        "series", "style", "point", "gap", "drop", "about", "count", "five", "at", "shown", "hit", "inked",
        "digest", "label", "labelled", "legend", "told"};
    private static final int[] PARAMETERS = {2, 4, 3, 1, 2, 2, 2, 3, 3, 3, 4, 1, 1, 3, 2, 2, 2, 2, 3, 0, 0, 3,
        2, 2, 1};
    private static final int[] STRANGE = {Integer.MIN_VALUE, Integer.MIN_VALUE + 1, -2000000000, -1000001,
        -1000000, -1, 0, 1, 1000000, 1000001, 2000000000, Integer.MAX_VALUE - 1, Integer.MAX_VALUE};

    public static void main(String[] args) {
        for (int seed = 0; seed < OBJECTS; seed++) {
            run(new Random(seed), seed % 2 == 0 ? 12 : 60);
        }
        Due.end();
    }

    private static void run(Random random, int width) {
        SignCharts c = new SignCharts();
        for (int call = 0; call < CALLS; call++) {
            int which = random.nextInt(NAMES.length);
            int[] args = new int[PARAMETERS[which]];
            for (int i = 0; i < args.length; i++) {
                args[i] = random.nextInt(20) == 0 ? STRANGE[random.nextInt(STRANGE.length)]
                    : random.nextInt(30) == 0 ? random.nextInt() : random.nextInt(width) - 1;
            }
            Due.holds(Calls.text(NAMES[which], args) + " does not throw",
                Calls.answer(c, NAMES[which], args) != Calls.THROWN);
        }
    }
}
