/** Promise 1, and the face of the class. */
public final class NewObjectTest {
    public static void main(String[] args) {
        aNewObject();
        objectsShareNothing();
        constants();
        face();
        Due.end();
    }

    private static void aNewObject() {
        Chart c = new Chart();
        int[] told = {0, 0, 20, 8, 0, 0, 0, 0, 10, 10};
        for (int what = 0; what < told.length; what++) {
            Due.is("told(" + what + ")", c.told(what), told[what]);
        }
        Due.is("inked()", c.inked(), 0);
        Due.is("at(0, 0)", c.at(0, 0), 32);
        Due.is("at(19, 7)", c.at(19, 7), 32);
        Due.is("shown(19, 7)", c.shown(19, 7), SignCharts.NONE);
        Due.is("hit(19, 7, 0)", c.hit(19, 7, 0), SignCharts.NONE);
        Due.is("place(0, 10)", c.place(0, 10), 39);
        Due.is("place(1, 10)", c.place(1, 10), 31);
        Due.is("count(0, 0)", c.count(0, 0), SignCharts.BAD);
        Due.is("labelled(0, 0)", c.labelled(0, 0), SignCharts.BAD);
        Due.is("legend(20, 8)", c.legend(20, 8), 0);
        Due.is("series(0, 0, 33)", c.series(0, 0, 33), 0);
    }

    private static void objectsShareNothing() {
        Chart a = new Chart();
        Chart b = new Chart();
        a.canvas(4, 2);
        a.scale(0, 1, -5, 5);
        a.series(0, 0, 33);
        a.point(0, 0, 0, 0);
        Due.holds("a second object is new", Picture.of(b).equals(Picture.of(new Chart())));
    }

    private static void constants() {
        Due.is("BAD", SignCharts.BAD, -1);
        Due.is("STATE", SignCharts.STATE, -2);
        Due.is("FULL", SignCharts.FULL, -3);
        Due.is("NONE", SignCharts.NONE, -9);
        Due.is("NO", SignCharts.NO, -2000000000);
    }

    private static void face() {
        int unhidden = 0;
        for (java.lang.reflect.Method m : SignCharts.class.getDeclaredMethods()) {
            if (!java.lang.reflect.Modifier.isPrivate(m.getModifiers())) {
                unhidden++;
            }
        }
        Due.is("methods that are not private", unhidden, 25);
        int fields = 0;
        for (java.lang.reflect.Field f : SignCharts.class.getDeclaredFields()) {
            if (!java.lang.reflect.Modifier.isPrivate(f.getModifiers())) {
                fields++;
            }
        }
        Due.is("fields that are not private", fields, 5);
        Due.is("constructors", SignCharts.class.getDeclaredConstructors().length, 1);
    }
}
