import java.math.BigInteger;

/** Boundary cases of promises 31 and 32: what is counted, and the digest. */
public final class ToldEdgeTest extends Edge {
    private ToldEdgeTest() {
        super("ToldEdgeTest");
    }

    public static void main(String[] args) {
        ToldEdgeTest test = new ToldEdgeTest();
        test.whatIsCounted();
        test.quartersTaken();
        test.soundBatches();
        test.digestOfNothing();
        test.digestOfEmptyThings();
        test.digestOfEachNumber();
        test.digestOfResults();
        test.digestWraps();
        test.theLastCallOfAnObject();
        test.objectsAreApart();
        test.finish();
    }

    // ---- 31: "OUTSIDE."

    private static void some(CoreShed x) {
        samples(x, 3);
        x.hole();
        batches(x, 4);
        x.put(0, 0);
        x.twice(0, 0);
        x.put(1, 1);
        x.blank(2);
        x.result(1, 0, 7);
        x.result(2, 0, 0);
    }

    private void whatIsCounted() {
        range("31 what, of nothing", Edge::nothing, (x, v) -> x.count(v), 0, 0, 4, 0, OUTSIDE);
        range("31 what", ToldEdgeTest::some, (x, v) -> x.count(v), 0, 2, 4, 2, OUTSIDE);
        unchanged("31 SAMPLES", ToldEdgeTest::some, x -> x.count(1), 3);
        unchanged("31 BATCHES", ToldEdgeTest::some, x -> x.count(2), 4);
        unchanged("31 QUARTERS taken", ToldEdgeTest::some, x -> x.count(3), 3);
        unchanged("31 HOLES, full", x -> holes(x, 0, 0, 0, 0, 0), x -> x.count(0), 4);
        unchanged("31 SAMPLES, full", x -> {
            samples(x, 30);
            holes(x, 5);
            x.sample(1, 0, 1);
        }, x -> x.count(1), 30);
        unchanged("31 BATCHES, full", x -> batches(x, 7), x -> x.count(2), 6);
    }

    private void quartersTaken() {
        unchanged("31 none taken", x -> samples(x, 30), x -> x.count(3), 0);
        unchanged("31 all four of one", x -> {
            samples(x, 1);
            batches(x, 6);
            for (int b = 0; b < 6; b++) {
                x.put(b, 0);
            }
        }, x -> x.count(3), 4);
        unchanged("31 STANDARDS and BLANKS take none", x -> {
            samples(x, 1);
            batches(x, 1);
            x.standard(0, 1, 1);
            x.blank(0);
        }, x -> x.count(3), 0);
        unchanged("31 the most: 96 PLACES", x -> {
            samples(x, 30);
            batches(x, 6);
            for (int p = 0; p < 96; p++) {
                x.put(p / 16, p % 30);
            }
        }, x -> x.count(3), 96);
    }

    private void soundBatches() {
        unchanged("31 BATCHES without PLACES", x -> batches(x, 6), x -> x.count(4), 0);
        unchanged("31 PLACES without RESULTS", x -> {
            batches(x, 1);
            x.blank(0);
        }, x -> x.count(4), 0);
        for (int sound = 0; sound <= 6; sound++) {
            int many = sound;
            unchanged("31 " + sound + " of six are SOUND", x -> {
                batches(x, 6);
                for (int b = 0; b < 6; b++) {
                    x.blank(b);
                    x.result(b, 0, b < many ? 5 : 6);
                }
            }, x -> x.count(4), sound);
        }
    }

    // ---- 32

    private static final int[] TABLE = {0, 1, 2, 3, 4, 5, 6, 7, 8, 9};
    private static final int[] LAWS = {5, 100};
    private static final BigInteger ROUND = BigInteger.ONE.shiftLeft(64);

    /** Without wrapping at first: the number as it is told, brought into a long at the last. */
    private static long digestOf(int[]... rows) {
        BigInteger d = BigInteger.valueOf(173);
        for (int[] row : rows) {
            for (int n : row) {
                d = d.multiply(BigInteger.valueOf(31)).add(BigInteger.valueOf(n));
            }
        }
        return d.mod(ROUND).longValue();
    }

    private static int[] of(int... numbers) {
        return numbers;
    }

    private void digestOfNothing() {
        unchanged("32 a new object", Edge::nothing, x -> x.digest(), digestOf(TABLE, LAWS));
        due("32 asked twice", x -> x.digest(), x -> x.digest(), digestOf(TABLE, LAWS));
    }

    private void digestOfEmptyThings() {
        unchanged("32 HOLES without anything", x -> holes(x, 0, 0, 0, 0), x -> x.digest(), digestOf(TABLE, LAWS));
        unchanged("32 BATCHES without PLACES", x -> batches(x, 6), x -> x.digest(), digestOf(TABLE, LAWS));
    }

    private void digestOfEachNumber() {
        due("32 a RUN with nothing RECOVERED", x -> {
            x.hole();
            x.run(0, 1, 0);
        }, x -> x.digest(), digestOf(of(1, 0), TABLE, LAWS));
        due("32 RUNS, then MARKS, then LAYERS of LOG 0, then 1", x -> {
            holes(x, 50);
            x.mark(0, 100000);
            x.run(0, 7, 3);
            x.mark(0, 0);
            layers(x, 0, 1, 9, 8);
            layers(x, 0, 0, 2, 0, 4, 9);
        }, x -> x.digest(), digestOf(of(50, 50, 7, 3), of(100000, 0), of(2, 0, 4, 9), of(9, 8), TABLE, LAWS));
        due("32 HOLE after HOLE", x -> {
            x.hole();
            x.hole();
            x.run(1, 2, 1);
            x.mark(0, 6);
            x.run(0, 4, 3);
        }, x -> x.digest(), digestOf(of(4, 3, 6), of(2, 1), TABLE, LAWS));
        due("32 CODES as logged, THE TABLE apart", x -> {
            holes(x, 50);
            x.layer(0, 0, 5, 1);
            x.code(1, 7);
        }, x -> x.digest(), digestOf(of(50, 50, 5, 1), of(0, 7, 2, 3, 4, 5, 6, 7, 8, 9), LAWS));
        due("32 SAMPLES as numbered", x -> {
            holes(x, 50, 60);
            x.sample(1, 3, 4);
            x.sample(0, 0, 50);
            x.batch();
            x.put(0, 1);
        }, x -> x.digest(), digestOf(of(50, 50, 60, 60), TABLE, of(1, 3, 4, 4, 0, 0, 50, 3), of(0, 1, 0, 0, 0), LAWS));
        due("32 laws", x -> {
            x.law(0, 1000);
            x.law(1, 0);
        }, x -> x.digest(), digestOf(TABLE, of(1000, 0)));
    }

    private void digestOfResults() {
        Start start = x -> {
            batches(x, 3);
            x.blank(2);
            x.standard(0, 100000, 10000);
        };
        due("32 without RESULTS", start, x -> x.digest(),
            digestOf(TABLE, of(1, 100000, 10000, 0, 0), of(2, 0, 0, 0, 0), LAWS));
        due("32 a RESULT of 0", x -> {
            start.on(x);
            x.result(2, 0, 0);
        }, x -> x.digest(), digestOf(TABLE, of(1, 100000, 10000, 0, 0), of(2, 0, 0, 1, 0), LAWS));
        due("32 the least RESULT", x -> {
            start.on(x);
            x.result(0, 0, -1000);
        }, x -> x.digest(), digestOf(TABLE, of(1, 100000, 10000, 1, -1000), of(2, 0, 0, 0, 0), LAWS));
        due("32 DOUBLES", x -> {
            samples(x, 1);
            batches(x, 1);
            x.blank(0);
            x.put(0, 0);
            x.twice(0, 1);
        }, x -> x.digest(), digestOf(of(300, 300), TABLE, of(0, 0, 10, 2), of(2, 0, 0, 0, 0), of(0, 0, 0, 0, 0),
            of(3, 1, 0, 0, 0), LAWS));
    }

    private void digestWraps() {
        int[] runs = new int[40];
        java.util.Arrays.fill(runs, 1000);
        int[] marks = new int[20];
        java.util.Arrays.fill(marks, 100000);
        due("32 full rows", x -> {
            x.hole();
            runs(x, 0, 20, 1000, 1000);
            for (int k = 0; k < 20; k++) {
                x.mark(0, 100000);
            }
        }, x -> x.digest(), digestOf(runs, marks, TABLE, LAWS));
    }

    // ---- "An object is used for at most 512 calls"

    private void theLastCallOfAnObject() {
        Start spent = x -> {
            some(x);
            int made = 5 + 4 + 6 + 1;
            for (int call = made; call < 511; call++) {
                x.cost(0, call % 2);
            }
        };
        due("31 the 512th call counts", spent, x -> x.count(3), 3);
        due("24 the 512th call asks", spent, x -> x.swap(2), NONE);
        due("16 the 512th call is taken", spent, x -> x.put(3, 2), 0);
        due("16 the 512th call is refused", spent, x -> x.put(4, 2), UNKNOWN);
    }

    private void objectsAreApart() {
        due("1 a new object beside a used one", x -> some(new CoreShed()), x -> x.count(0), 0);
        unchanged("32 a used object beside a new one", ToldEdgeTest::some, x -> new CoreShed().digest(),
            digestOf(TABLE, LAWS));
        unchanged("20 laws of another object", ToldEdgeTest::some, x -> new CoreShed().law(0, 77), 5);
        unchanged("10 THE TABLE of another object", ToldEdgeTest::some, x -> new CoreShed().code(3, 7), 3);
    }
}
