/**
 * Questions to a chart, as many as one likes: charts made by the same calls are asked, each until
 * its calls are used up, and the chart itself keeps those that it has left.
 */
final class Asked {
    private final Chart of;
    private Chart like;

    Asked(Chart of) {
        this.of = of;
        like = of.again();
    }

    long ask(String name, int... args) {
        if (like.left() == 0) {
            like = of.again();
        }
        return like.call(name, args);
    }
}
