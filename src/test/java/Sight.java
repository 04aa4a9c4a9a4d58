/**
 * All that can be seen of a shed, and then of what it answers to calls that change it: two sheds that
 * differ in anything, a taken QUARTER or a kept flag, differ here. The shed is of no use afterwards.
 */
final class Sight {
    private static final int HOLES = 4, SAMPLES = 30, BATCHES = 6;

    private final long[] seen = new long[400];
    private int many;

    private Sight() {
    }

    static long[] of(CoreShed x) {
        Sight sight = new Sight();
        sight.told(x);
        sight.asked(x);
        sight.tried(x);
        sight.told(x);
        return sight.seen;
    }

    private void add(long answer) {
        seen[many] = answer;
        many++;
    }

    private void told(CoreShed x) {
        add(x.digest());
        for (int what = 0; what <= 4; what++) {
            add(x.count(what));
        }
    }

    private void asked(CoreShed x) {
        for (int h = 0; h < HOLES; h++) {
            add(x.end(h));
            add(x.wrong(h));
            add(x.agree(h));
            for (int g = 0; g < HOLES; g++) {
                add(x.cost(h, g));
            }
        }
        for (int s = 0; s < SAMPLES; s++) {
            add(x.left(s));
            add(x.grade(s, 1));
        }
        for (int b = 0; b < BATCHES; b++) {
            add(x.fault(b));
        }
    }

    private void tried(CoreShed x) {
        for (int h = 0; h < HOLES; h++) {
            add(x.run(h, 2, 1));
            add(x.mark(h, 3));
            add(x.layer(h, 0, x.end(h), 4));
            add(x.layer(h, 1, x.end(h), 5));
            add(x.sample(h, 0, 1));
        }
        for (int b = 0; b < BATCHES; b++) {
            add(x.put(b, 0));
            add(x.twice(b, 0));
            add(x.blank(b));
            add(x.result(b, 0, 6));
        }
        add(x.hole());
        add(x.batch());
        add(x.law(0, 7));
        add(x.law(1, 8));
        add(x.code(0, 9));
    }
}
