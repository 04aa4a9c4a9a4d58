import java.util.Arrays;

/** Tests of one boundary case each, every one on a new shed, so that none leans on the calls of another. */
abstract class Edge {
    static final int NONE = -1, UNKNOWN = -101, OUTSIDE = -102, STATE = -103, FULL = -104;
    static final int LOWEST = Integer.MIN_VALUE, HIGHEST = Integer.MAX_VALUE;

    interface Start {
        void on(CoreShed x);
    }

    interface Call {
        long on(CoreShed x);
    }

    interface CallWith {
        long on(CoreShed x, int v);
    }

    private final Check check;

    Edge(String test) {
        check = new Check(test);
    }

    void finish() {
        check.finish();
    }

    /** A call's answer behind a start. */
    void due(String what, Start start, Call call, long want) {
        check.due(what, call.on(begun(start)), want);
    }

    /** A call that is refused or only asks: its answer, and that the shed is as if it had not been made. */
    void unchanged(String what, Start start, Call call, long want) {
        CoreShed asked = begun(start);
        check.due(what, call.on(asked), want);
        check.holds(what + ": changes nothing", Arrays.equals(Sight.of(asked), Sight.of(begun(start))));
    }

    /** A call that is taken: its answer, and that it is the same as another start. */
    void becomes(String what, Start start, Call call, long want, Start same) {
        CoreShed changed = begun(start);
        check.due(what, call.on(changed), want);
        check.holds(what + ": what it becomes", Arrays.equals(Sight.of(changed), Sight.of(begun(same))));
    }

    /** A number from least to greatest: both are taken; those next to them and the ends of int are refused. */
    void range(String what, Start start, CallWith call, int least, long atLeast, int greatest, long atGreatest,
               long refusal) {
        due(what + ", the least: " + least, start, x -> call.on(x, least), atLeast);
        due(what + ", the greatest: " + greatest, start, x -> call.on(x, greatest), atGreatest);
        for (int v : new int[] {LOWEST, least - 1, greatest + 1, HIGHEST}) {
            unchanged(what + ", refused: " + v, start, x -> call.on(x, v), refusal);
        }
    }

    /** Every number is refused: there is nothing to name. */
    void never(String what, Start start, CallWith call, long refusal) {
        for (int v : new int[] {LOWEST, -1, 0, 1, HIGHEST}) {
            unchanged(what + ", refused: " + v, start, x -> call.on(x, v), refusal);
        }
    }

    private static CoreShed begun(Start start) {
        CoreShed x = new CoreShed();
        start.on(x);
        return x;
    }

    // ---- starts

    static void nothing(CoreShed x) {
        // A new object.
    }

    /** HOLES of one RUN each, all of it RECOVERED; 0: without a RUN. */
    static void holes(CoreShed x, int... ends) {
        for (int bottom : ends) {
            int h = x.hole();
            if (bottom > 0) {
                x.run(h, bottom, bottom);
            }
        }
    }

    static void runs(CoreShed x, int h, int many, int drilled, int recovered) {
        for (int r = 0; r < many; r++) {
            x.run(h, drilled, recovered);
        }
    }

    static void marks(CoreShed x, int h, int... depths) {
        for (int depth : depths) {
            x.mark(h, depth);
        }
    }

    /** LAYERS as depth, CODE, depth, CODE ... */
    static void layers(CoreShed x, int h, int log, int... depthsAndCodes) {
        for (int i = 0; i + 1 < depthsAndCodes.length; i += 2) {
            x.layer(h, log, depthsAndCodes[i], depthsAndCodes[i + 1]);
        }
    }

    static void thinLayers(CoreShed x, int h, int log, int many, int code) {
        for (int k = 1; k <= many; k++) {
            x.layer(h, log, k, code);
        }
    }

    /** A HOLE of 300, with so many SAMPLES of ten units each from 0 on. */
    static void samples(CoreShed x, int many) {
        holes(x, 300);
        for (int s = 0; s < many; s++) {
            x.sample(0, s * 10, s * 10 + 10);
        }
    }

    static void batches(CoreShed x, int many) {
        for (int b = 0; b < many; b++) {
            x.batch();
        }
    }

    static void blanks(CoreShed x, int b, int many) {
        for (int p = 0; p < many; p++) {
            x.blank(b);
        }
    }

    static void results(CoreShed x, int b, int... numbers) {
        for (int p = 0; p < numbers.length; p++) {
            x.result(b, p, numbers[p]);
        }
    }
}
