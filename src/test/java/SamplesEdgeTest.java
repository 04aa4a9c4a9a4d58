/** Boundary cases of promises 13 to 15: SAMPLES, their QUARTERS, and BATCHES as such. */
public final class SamplesEdgeTest extends Edge {
    private SamplesEdgeTest() {
        super("SamplesEdgeTest");
    }

    public static void main(String[] args) {
        SamplesEdgeTest test = new SamplesEdgeTest();
        test.sampleNamesAHole();
        test.stretchOfASample();
        test.samplesOfAHoleWithoutRuns();
        test.unitsOfAnotherSample();
        test.somethingIsRecovered();
        test.thirtySamples();
        test.sampleRefusalsInOrder();
        test.samplesAreNumbered();
        test.leftNamesASample();
        test.fourQuarters();
        test.quartersOfRefusedCalls();
        test.sixBatches();
        test.batchesAreNumbered();
        test.finish();
    }

    /** Core from 0 to 30 and from 40 to 100. */
    private static void twoRuns(CoreShed x) {
        x.hole();
        x.run(0, 40, 30);
        x.run(0, 60, 60);
    }

    // ---- 13: "UNKNOWN; OUTSIDE: it is no STRETCH"

    private void sampleNamesAHole() {
        range("13 h of one", x -> holes(x, 9), (x, v) -> x.sample(v, 0, 9), 0, 0, 0, 0, UNKNOWN);
        range("13 h of four", x -> holes(x, 9, 9, 9, 9), (x, v) -> x.sample(v, 0, 9), 0, 0, 3, 0, UNKNOWN);
    }

    private void stretchOfASample() {
        Start start = SamplesEdgeTest::twoRuns;
        range("13 a ahead of END", start, (x, v) -> x.sample(0, v, 100), 0, 0, 99, 0, OUTSIDE);
        range("13 a ahead of 1", start, (x, v) -> x.sample(0, v, 1), 0, 0, 0, 0, OUTSIDE);
        range("13 b behind 0", start, (x, v) -> x.sample(0, 0, v), 1, 0, 100, 0, OUTSIDE);
        range("13 b behind the last unit's top", start, (x, v) -> x.sample(0, 99, v), 100, 0, 100, 0, OUTSIDE);
        unchanged("13 a is b at 0", start, x -> x.sample(0, 0, 0), OUTSIDE);
        unchanged("13 a is b at END", start, x -> x.sample(0, 100, 100), OUTSIDE);
        unchanged("13 a above b", start, x -> x.sample(0, 9, 8), OUTSIDE);
        unchanged("13 both ends of int", start, x -> x.sample(0, LOWEST, HIGHEST), OUTSIDE);
        unchanged("13 both ends of int the other way", start, x -> x.sample(0, HIGHEST, LOWEST), OUTSIDE);
        due("13 the longest", x -> {
            x.hole();
            runs(x, 0, 20, 1000, 1);
        }, x -> x.sample(0, 0, 20000), 0);
    }

    private void samplesOfAHoleWithoutRuns() {
        never("13 a of a HOLE without RUNS", x -> holes(x, 0), (x, v) -> x.sample(0, v, 1), OUTSIDE);
        never("13 b of a HOLE without RUNS", x -> holes(x, 0), (x, v) -> x.sample(0, 0, v), OUTSIDE);
        unchanged("13 END of another HOLE", x -> holes(x, 5, 9), x -> x.sample(0, 0, 9), OUTSIDE);
    }

    // ---- 13: "STATE: it has a unit of another one"

    private static void oneSample(CoreShed x) {
        holes(x, 100, 100);
        x.sample(0, 20, 30);
    }

    private void unitsOfAnotherSample() {
        Start start = SamplesEdgeTest::oneSample;
        due("13 ends where another begins", start, x -> x.sample(0, 10, 20), 1);
        unchanged("13 ends one unit behind that", start, x -> x.sample(0, 10, 21), STATE);
        due("13 begins where another ends", start, x -> x.sample(0, 30, 40), 1);
        unchanged("13 begins one unit ahead of that", start, x -> x.sample(0, 29, 40), STATE);
        unchanged("13 the first unit of another", start, x -> x.sample(0, 20, 21), STATE);
        unchanged("13 the last unit of another", start, x -> x.sample(0, 29, 30), STATE);
        unchanged("13 a unit within another", start, x -> x.sample(0, 25, 26), STATE);
        unchanged("13 the same", start, x -> x.sample(0, 20, 30), STATE);
        unchanged("13 around another", start, x -> x.sample(0, 19, 31), STATE);
        unchanged("13 all of the HOLE", start, x -> x.sample(0, 0, 100), STATE);
        due("13 the same of another HOLE", start, x -> x.sample(1, 20, 30), 1);
        Start two = x -> {
            oneSample(x);
            x.sample(0, 40, 50);
        };
        due("13 from one to another", two, x -> x.sample(0, 30, 40), 2);
        unchanged("13 one unit of the later one", two, x -> x.sample(0, 30, 41), STATE);
        unchanged("13 one unit of the earlier one", two, x -> x.sample(0, 29, 40), STATE);
        due("13 a refused one has no units", x -> {
            oneSample(x);
            x.sample(0, 25, 60);
        }, x -> x.sample(0, 30, 60), 1);
    }

    // ---- 13: "or nothing of it is RECOVERED"

    private void somethingIsRecovered() {
        Start start = SamplesEdgeTest::twoRuns;
        unchanged("13 all that is LOST", start, x -> x.sample(0, 30, 40), STATE);
        unchanged("13 one unit that is LOST", start, x -> x.sample(0, 35, 36), STATE);
        due("13 one RECOVERED unit ahead", start, x -> x.sample(0, 29, 40), 0);
        due("13 one RECOVERED unit behind", start, x -> x.sample(0, 30, 41), 0);
        due("13 one RECOVERED unit alone", start, x -> x.sample(0, 29, 30), 0);
        unchanged("13 a RUN with nothing RECOVERED", x -> {
            x.hole();
            x.run(0, 1000, 0);
        }, x -> x.sample(0, 0, 1000), STATE);
        due("13 one unit of all", x -> {
            x.hole();
            x.run(0, 1000, 0);
            x.run(0, 1000, 1);
            x.run(0, 1000, 0);
        }, x -> x.sample(0, 0, 3000), 0);
    }

    // ---- 2: "SAMPLES (30 at most, numbered)"

    private static void thirty(CoreShed x) {
        holes(x, 20, 20);
        x.run(1, 10, 0);
        for (int s = 0; s < 30; s++) {
            x.sample(s / 15, s % 15, s % 15 + 1);
        }
    }

    private void thirtySamples() {
        due("13 the thirtieth", x -> samples(x, 29), x -> x.sample(0, 290, 300), 29);
        due("13 thirty are counted", SamplesEdgeTest::thirty, x -> x.count(1), 30);
        unchanged("13 the thirty-first", SamplesEdgeTest::thirty, x -> x.sample(0, 15, 16), FULL);
        unchanged("13 the thirty-first of another HOLE", SamplesEdgeTest::thirty, x -> x.sample(1, 15, 16), FULL);
        unchanged("13 the thirty-first once more", x -> {
            thirty(x);
            x.sample(0, 15, 16);
        }, x -> x.sample(0, 16, 17), FULL);
    }

    // ---- 13: "UNKNOWN; OUTSIDE ...; STATE ...; FULL"

    private void sampleRefusalsInOrder() {
        unchanged("13 UNKNOWN ahead of no STRETCH", x -> holes(x, 9), x -> x.sample(1, 5, 4), UNKNOWN);
        unchanged("13 no STRETCH ahead of a unit of another", SamplesEdgeTest::oneSample, x -> x.sample(0, 20, 101),
            OUTSIDE);
        unchanged("13 below 0 ahead of a unit of another", SamplesEdgeTest::oneSample, x -> x.sample(0, -1, 25),
            OUTSIDE);
        unchanged("13 no STRETCH ahead of nothing RECOVERED", SamplesEdgeTest::twoRuns, x -> x.sample(0, 35, 35),
            OUTSIDE);
        Start start = SamplesEdgeTest::thirty;
        unchanged("13 UNKNOWN ahead of all", start, x -> x.sample(2, 5, 5), UNKNOWN);
        unchanged("13 no STRETCH ahead of FULL", start, x -> x.sample(0, 16, 21), OUTSIDE);
        unchanged("13 a is b ahead of FULL", start, x -> x.sample(0, 16, 16), OUTSIDE);
        unchanged("13 a unit of another ahead of FULL", start, x -> x.sample(0, 14, 16), STATE);
        unchanged("13 nothing RECOVERED ahead of FULL", start, x -> x.sample(1, 20, 30), STATE);
    }

    private void samplesAreNumbered() {
        due("13 over all HOLES", x -> {
            holes(x, 9, 9);
            x.sample(1, 0, 1);
        }, x -> x.sample(0, 0, 1), 1);
        due("13 as they come, not by depth", x -> {
            holes(x, 9);
            x.sample(0, 8, 9);
        }, x -> x.sample(0, 0, 1), 1);
        due("13 a refused one takes no number", x -> {
            holes(x, 9);
            x.sample(0, 0, 10);
            x.sample(0, 0, 1);
            x.sample(0, 0, 1);
        }, x -> x.sample(0, 1, 2), 1);
        due("13 a LOG does not hinder", x -> {
            holes(x, 9);
            x.layer(0, 0, 9, 1);
        }, x -> x.sample(0, 1, 2), 0);
    }

    // ---- 14: "each has four QUARTERS"

    private void leftNamesASample() {
        never("14 no SAMPLES", x -> holes(x, 9), (x, v) -> x.left(v), UNKNOWN);
        range("14 s of one", x -> samples(x, 1), (x, v) -> x.left(v), 0, 4, 0, 4, UNKNOWN);
        range("14 s of thirty", x -> samples(x, 30), (x, v) -> x.left(v), 0, 4, 29, 4, UNKNOWN);
    }

    private void fourQuarters() {
        for (int taken = 0; taken <= 4; taken++) {
            int many = taken;
            unchanged("14 in " + taken + " BATCHES", x -> {
                samples(x, 2);
                batches(x, 6);
                for (int b = 0; b < many; b++) {
                    x.put(b, 1);
                }
            }, x -> x.left(1), 4 - taken);
        }
        for (int doubles = 0; doubles <= 3; doubles++) {
            int many = doubles;
            unchanged("14 with " + doubles + " DOUBLES", x -> {
                samples(x, 2);
                batches(x, 1);
                x.put(0, 1);
                for (int d = 0; d < many; d++) {
                    x.twice(0, 0);
                }
            }, x -> x.left(1), 3 - doubles);
        }
    }

    private void quartersOfRefusedCalls() {
        Start none = x -> {
            samples(x, 2);
            batches(x, 6);
            for (int b = 0; b < 5; b++) {
                x.put(b, 0);
            }
            x.twice(0, 0);
        };
        due("14 never below none", none, x -> x.left(0), 0);
        due("14 four are counted as taken", none, x -> x.count(3), 4);
        due("14 another one is apart", none, x -> x.left(1), 4);
        due("14 a full BATCH takes none", x -> {
            samples(x, 1);
            batches(x, 1);
            blanks(x, 0, 16);
            x.put(0, 0);
        }, x -> x.left(0), 4);
        due("14 RESULTS give none back", x -> {
            samples(x, 1);
            batches(x, 1);
            x.put(0, 0);
            x.result(0, 0, 5);
        }, x -> x.left(0), 3);
    }

    // ---- 15: "BATCHES (6 at most)"

    private void sixBatches() {
        for (int b = 0; b < 6; b++) {
            int many = b;
            due("15 BATCH " + b, x -> batches(x, many), x -> x.batch(), many);
        }
        due("15 six are counted", x -> batches(x, 6), x -> x.count(2), 6);
        unchanged("15 the seventh", x -> batches(x, 6), x -> x.batch(), FULL);
        unchanged("15 the seventh once more", x -> batches(x, 7), x -> x.batch(), FULL);
        unchanged("15 the seventh, with PLACES", x -> {
            batches(x, 6);
            blanks(x, 5, 16);
        }, x -> x.batch(), FULL);
    }

    private void batchesAreNumbered() {
        due("15 apart from HOLES and SAMPLES", x -> samples(x, 3), x -> x.batch(), 0);
        due("15 a new one has no PLACES", x -> batches(x, 1), x -> x.about(0, 0, 0), UNKNOWN);
    }
}
