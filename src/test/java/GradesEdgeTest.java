/** Boundary cases of promises 27 and 28: GRADES and COMPOSITES. */
public final class GradesEdgeTest extends Edge {
    private GradesEdgeTest() {
        super("GradesEdgeTest");
    }

    public static void main(String[] args) {
        GradesEdgeTest test = new GradesEdgeTest();
        test.gradeNamesASample();
        test.sides();
        test.endsOfAResult();
        test.noGrade();
        test.firstSoundBatch();
        test.notAsDouble();
        test.compositeNamesAHole();
        test.stretchOfAComposite();
        test.sidesOfAComposite();
        test.top();
        test.topAgainstEnds();
        test.unitsInCommon();
        test.samplesWithoutGrades();
        test.greatestComposite();
        test.finish();
    }

    /** SAMPLES of ten units each from 0 on, one BATCH with all of them and these RESULTS. */
    private static void graded(CoreShed x, int... numbers) {
        samples(x, numbers.length);
        batches(x, 1);
        for (int s = 0; s < numbers.length; s++) {
            x.put(0, s);
        }
        results(x, 0, numbers);
    }

    // ---- 27: "UNKNOWN; OUTSIDE."

    private void gradeNamesASample() {
        never("27 no SAMPLES", x -> holes(x, 9), (x, v) -> x.grade(v, 0), UNKNOWN);
        range("27 s of one", x -> graded(x, 7), (x, v) -> x.grade(v, 0), 0, 7, 0, 7, UNKNOWN);
        range("27 s of thirty", x -> {
            samples(x, 30);
            batches(x, 1);
            x.put(0, 29);
            x.result(0, 0, 8);
        }, (x, v) -> x.grade(v, 1), 0, NONE, 29, 8, UNKNOWN);
        unchanged("27 UNKNOWN ahead of side above", x -> graded(x, 7), x -> x.grade(1, 2), UNKNOWN);
        unchanged("27 UNKNOWN ahead of side below", x -> graded(x, 7), x -> x.grade(-1, -1), UNKNOWN);
    }

    private void sides() {
        range("27 side", x -> graded(x, -50), (x, v) -> x.grade(0, v), 0, 0, 1, 49, OUTSIDE);
        range("27 side without a GRADE", x -> samples(x, 1), (x, v) -> x.grade(0, v), 0, NONE, 1, NONE, OUTSIDE);
    }

    // ---- 2: "Its ENDS: the number twice, or 0 and that less 1."

    private void endsOfAResult() {
        int[] numbers = {-1000, -999, -2, -1, 0, 1, 99999, 100000};
        int[] lower = {0, 0, 0, 0, 0, 1, 99999, 100000};
        int[] upper = {999, 998, 1, 0, 0, 1, 99999, 100000};
        for (int i = 0; i < numbers.length; i++) {
            int number = numbers[i];
            unchanged("27 lower END of " + number, x -> graded(x, number), x -> x.grade(0, 0), lower[i]);
            unchanged("27 upper END of " + number, x -> graded(x, number), x -> x.grade(0, 1), upper[i]);
        }
    }

    // ---- 2: "none, if there is none"

    private void noGrade() {
        unchanged("27 in no BATCH", x -> samples(x, 1), x -> x.grade(0, 0), NONE);
        unchanged("27 no RESULT", x -> {
            samples(x, 1);
            batches(x, 1);
            x.put(0, 0);
        }, x -> x.grade(0, 0), NONE);
        unchanged("27 another PLACE has no RESULT", x -> {
            samples(x, 1);
            batches(x, 1);
            x.put(0, 0);
            x.blank(0);
            x.result(0, 0, 7);
        }, x -> x.grade(0, 0), NONE);
        unchanged("27 the BATCH is not SOUND", x -> {
            samples(x, 1);
            batches(x, 1);
            x.put(0, 0);
            x.blank(0);
            results(x, 0, 7, 6);
        }, x -> x.grade(0, 0), NONE);
        unchanged("27 it would be SOUND by a SWAP", x -> {
            samples(x, 1);
            batches(x, 1);
            x.put(0, 0);
            x.blank(0);
            results(x, 0, 5, 60);
        }, x -> x.grade(0, 0), NONE);
        unchanged("27 a SOUND BATCH without it", x -> {
            graded(x, 7);
            x.sample(0, 100, 110);
        }, x -> x.grade(1, 0), NONE);
        due("27 SOUND by the law of now", x -> {
            samples(x, 1);
            batches(x, 1);
            x.put(0, 0);
            x.blank(0);
            results(x, 0, 7, 6);
            x.law(0, 6);
        }, x -> x.grade(0, 0), 7);
    }

    // ---- 2: "in the first SOUND BATCH (by numbers) that has it"

    private void firstSoundBatch() {
        Start two = x -> {
            samples(x, 2);
            batches(x, 6);
            x.put(5, 0);
            x.put(0, 0);
            x.blank(0);
            x.result(5, 0, 55);
        };
        due("27 the first has no RESULTS", two, x -> x.grade(0, 0), 55);
        due("27 the first is not SOUND", x -> {
            two.on(x);
            results(x, 0, 11, 6);
        }, x -> x.grade(0, 0), 55);
        due("27 both are SOUND, by numbers", x -> {
            two.on(x);
            results(x, 0, 11, 5);
        }, x -> x.grade(0, 0), 11);
        due("27 the first is not SOUND any more", x -> {
            two.on(x);
            results(x, 0, 11, 5);
            x.result(0, 1, 6);
        }, x -> x.grade(0, 0), 55);
        due("27 an earlier SOUND BATCH without it", x -> {
            samples(x, 2);
            batches(x, 2);
            x.put(0, 1);
            x.put(1, 0);
            x.result(0, 0, 11);
            x.result(1, 0, 22);
        }, x -> x.grade(0, 0), 22);
        due("27 an earlier BATCH without PLACES", x -> {
            samples(x, 1);
            batches(x, 2);
            x.put(1, 0);
            x.result(1, 0, 22);
        }, x -> x.grade(0, 0), 22);
    }

    private void notAsDouble() {
        due("27 its PLACE, not its DOUBLE", x -> {
            samples(x, 1);
            batches(x, 1);
            x.put(0, 0);
            x.twice(0, 0);
            results(x, 0, 100, 95);
        }, x -> x.grade(0, 0), 100);
        due("27 a STANDARD of its number is none", x -> {
            samples(x, 6);
            batches(x, 1);
            x.standard(0, 5, 0);
            x.result(0, 0, 5);
        }, x -> x.grade(5, 0), NONE);
        due("27 a DOUBLE of the PLACE of its number is none", x -> {
            samples(x, 3);
            batches(x, 1);
            x.blank(0);
            x.put(0, 2);
            x.twice(0, 1);
            results(x, 0, 0, 9, 9);
        }, x -> x.grade(1, 0), NONE);
    }

    // ---- 28: "UNKNOWN (as -101): h; OUTSIDE (as -102): no STRETCH, side, TOP."

    private void compositeNamesAHole() {
        never("28 no HOLES", Edge::nothing, (x, v) -> x.composite(v, 0, 1, 1, 0), -101L);
        Start start = x -> {
            holes(x, 9, 9, 9, 9);
            x.sample(0, 0, 2);
            x.sample(3, 0, 3);
            batches(x, 1);
            x.put(0, 0);
            x.put(0, 1);
            results(x, 0, 10, 20);
        };
        range("28 h of four", start, (x, v) -> x.composite(v, 0, 9, 100, 0), 0, 20, 3, 60, -101L);
        unchanged("28 a HOLE without SAMPLES", start, x -> x.composite(1, 0, 9, 100, 0), 0);
        unchanged("28 UNKNOWN ahead of no STRETCH", start, x -> x.composite(4, 5, 5, 100, 0), -101L);
        unchanged("28 UNKNOWN ahead of TOP", start, x -> x.composite(-1, 0, 9, 0, 0), -101L);
        unchanged("28 UNKNOWN ahead of side", start, x -> x.composite(4, 0, 9, 100, 3), -101L);
        unchanged("28 UNKNOWN ahead of all", start, x -> x.composite(4, 5, 5, 0, 3), -101L);
    }

    private void stretchOfAComposite() {
        Start start = x -> graded(x, 7);
        range("28 a ahead of END", start, (x, v) -> x.composite(0, v, 300, 100, 2), 0, 10, 299, 0, -102L);
        range("28 a ahead of 1", start, (x, v) -> x.composite(0, v, 1, 100, 2), 0, 1, 0, 1, -102L);
        range("28 b behind 0", start, (x, v) -> x.composite(0, 0, v, 100, 2), 1, 1, 300, 10, -102L);
        range("28 b behind the last unit's top", start, (x, v) -> x.composite(0, 299, v, 100, 2), 300, 0, 300, 0, -102L);
        unchanged("28 a is b", start, x -> x.composite(0, 5, 5, 100, 0), -102L);
        unchanged("28 a above b", start, x -> x.composite(0, 6, 5, 100, 0), -102L);
        unchanged("28 both ends of int", start, x -> x.composite(0, LOWEST, HIGHEST, 100, 0), -102L);
        never("28 b of a HOLE without RUNS", x -> holes(x, 0), (x, v) -> x.composite(0, 0, v, 100, 0), -102L);
    }

    private void sidesOfAComposite() {
        range("28 side", x -> graded(x, -50), (x, v) -> x.composite(0, 0, 10, 100, v), 0, 0, 2, 10, -102L);
        due("28 side 1", x -> graded(x, -50), x -> x.composite(0, 0, 10, 100, 1), 490);
        range("28 side without GRADES", x -> holes(x, 9), (x, v) -> x.composite(0, 0, 9, 100, v), 0, 0, 2, 0, -102L);
    }

    // ---- 2: "a TOP (1 to 100000)", "the END (a side), or the TOP, whichever is less"

    private void top() {
        for (int side = 0; side <= 2; side++) {
            int which = side;
            range("28 TOP, side " + side, x -> graded(x, 100000), (x, v) -> x.composite(0, 0, 10, v, which),
                1, 10, 100000, which == 2 ? 10 : 1000000, -102L);
        }
    }

    private void topAgainstEnds() {
        due("28 TOP one below the END", x -> graded(x, 50), x -> x.composite(0, 0, 10, 49, 0), 490);
        due("28 TOP at the END", x -> graded(x, 50), x -> x.composite(0, 0, 10, 50, 0), 500);
        due("28 TOP one above the END", x -> graded(x, 50), x -> x.composite(0, 0, 10, 51, 0), 500);
        due("28 TOP one below the upper END", x -> graded(x, -51), x -> x.composite(0, 0, 10, 49, 1), 490);
        due("28 TOP at the upper END", x -> graded(x, -51), x -> x.composite(0, 0, 10, 50, 1), 500);
        due("28 TOP above the upper END", x -> graded(x, -51), x -> x.composite(0, 0, 10, 51, 1), 500);
        due("28 TOP of the lower END", x -> graded(x, -51), x -> x.composite(0, 0, 10, 1, 0), 0);
        due("28 GRADE 0, TOP 1", x -> graded(x, 0), x -> x.composite(0, 0, 10, 1, 1), 0);
        due("28 GRADE 0 has units", x -> graded(x, 0), x -> x.composite(0, 0, 10, 1, 2), 10);
        due("28 TOP cuts each SAMPLE, not the sum", x -> graded(x, 10, 90), x -> x.composite(0, 0, 20, 50, 0), 600);
    }

    // ---- 2: "the sum of units in common"

    private void unitsInCommon() {
        Start start = x -> {
            holes(x, 100, 100);
            x.sample(0, 10, 20);
            x.sample(0, 20, 30);
            x.sample(1, 0, 100);
            batches(x, 1);
            x.put(0, 0);
            x.put(0, 1);
            x.put(0, 2);
            results(x, 0, 3, 5, 1000);
        };
        for (int a = 0; a < 40; a++) {
            for (int b = a + 1; b <= 40; b += 3) {
                int from = a, to = b, sum = 0, units = 0;
                for (int u = a; u < b; u++) {
                    sum += u >= 10 && u < 20 ? 3 : u >= 20 && u < 30 ? 5 : 0;
                    units += u >= 10 && u < 30 ? 1 : 0;
                }
                due("28 sum from " + a + " to " + b, start, x -> x.composite(0, from, to, 100, 0), sum);
                due("28 units from " + a + " to " + b, start, x -> x.composite(0, from, to, 100, 2), units);
            }
        }
        due("28 LOST units count", x -> {
            x.hole();
            x.run(0, 10, 1);
            x.sample(0, 0, 10);
            batches(x, 1);
            x.put(0, 0);
            x.result(0, 0, 7);
        }, x -> x.composite(0, 0, 10, 100, 0), 70);
    }

    private void samplesWithoutGrades() {
        Start start = x -> {
            graded(x, 7);
            x.sample(0, 10, 20);
            x.batch();
            x.put(1, 1);
            x.blank(1);
            results(x, 1, 9, 6);
        };
        for (int side = 0; side <= 2; side++) {
            int which = side;
            due("28 a SAMPLE in a BATCH that is not SOUND, side " + side, start,
                x -> x.composite(0, 10, 20, 100, which), 0);
            due("28 no SAMPLE, side " + side, start, x -> x.composite(0, 20, 300, 100, which), 0);
        }
        due("28 with and without a GRADE", start, x -> x.composite(0, 0, 300, 100, 2), 10);
    }

    private void greatestComposite() {
        Start start = x -> {
            x.hole();
            runs(x, 0, 20, 1000, 1);
            x.sample(0, 0, 10000);
            x.sample(0, 10000, 20000);
            batches(x, 1);
            x.put(0, 0);
            x.put(0, 1);
            results(x, 0, 100000, 100000);
        };
        due("28 the greatest sum", start, x -> x.composite(0, 0, 20000, 100000, 1), 2000000000L);
        due("28 the most units", start, x -> x.composite(0, 0, 20000, 1, 2), 20000);
        due("28 thirty SAMPLES", x -> {
            samples(x, 30);
            batches(x, 2);
            for (int s = 0; s < 30; s++) {
                x.put(s / 15, s);
            }
            for (int p = 0; p < 15; p++) {
                x.result(0, p, 2);
                x.result(1, p, 3);
            }
        }, x -> x.composite(0, 0, 300, 100, 0), 750);
    }
}
