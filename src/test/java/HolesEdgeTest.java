/** Boundary cases of promises 1 to 8: a new object, HOLES, RUNS, STRETCHES, MARKS and THE MEND. */
public final class HolesEdgeTest extends Edge {
    private HolesEdgeTest() {
        super("HolesEdgeTest");
    }

    public static void main(String[] args) {
        HolesEdgeTest test = new HolesEdgeTest();
        test.newObjectHasNothing();
        test.newObjectRefusesAllNames();
        test.fourHoles();
        test.holesAreNumberedAsTheyCome();
        test.runNamesAHole();
        test.drilled();
        test.recoveredOfARun();
        test.twentyRuns();
        test.runsOfALoggedHole();
        test.runsOfASampledHole();
        test.refusedCallsLeaveTheRunsOpen();
        test.runRefusalsInOrder();
        test.end();
        test.recoveredNamesAHole();
        test.stretchOfRecovered();
        test.everyStretch();
        test.noStretchWithoutRuns();
        test.recoveredLiesFirst();
        test.markNamesAHole();
        test.depthOfAMark();
        test.twentyMarks();
        test.markRefusalsInOrder();
        test.wrongNamesAHole();
        test.isWrongNamesAMark();
        test.marksThatRise();
        test.marksAgainstEnd();
        test.severalChoices();
        test.mendOfTwenty();
        test.mendOfOneHoleAfterAnother();
        test.finish();
    }

    // ---- 1: "No HOLES, SAMPLES, BATCHES."

    private void newObjectHasNothing() {
        for (int what = 0; what <= 4; what++) {
            int told = what;
            unchanged("1 count(" + what + ")", Edge::nothing, x -> x.count(told), 0);
        }
        becomes("1 DIRT at first", Edge::nothing, x -> x.law(0, 5), 5, Edge::nothing);
        becomes("1 SPREAD at first", Edge::nothing, x -> x.law(1, 100), 100, Edge::nothing);
        for (int c = 0; c <= 9; c++) {
            int code = c;
            becomes("1 THE TABLE at first", Edge::nothing, x -> x.code(code, code), code, Edge::nothing);
        }
    }

    private void newObjectRefusesAllNames() {
        never("1 run", Edge::nothing, (x, v) -> x.run(v, 1, 1), UNKNOWN);
        never("1 end", Edge::nothing, (x, v) -> x.end(v), UNKNOWN);
        never("1 recovered", Edge::nothing, (x, v) -> x.recovered(v, 0, 1), UNKNOWN);
        never("1 mark", Edge::nothing, (x, v) -> x.mark(v, 1), UNKNOWN);
        never("1 wrong", Edge::nothing, (x, v) -> x.wrong(v), UNKNOWN);
        never("1 isWrong", Edge::nothing, (x, v) -> x.isWrong(v, 0), UNKNOWN);
        never("1 layer", Edge::nothing, (x, v) -> x.layer(v, 0, 1, 1), UNKNOWN);
        never("1 rock", Edge::nothing, (x, v) -> x.rock(v, 0, 0), UNKNOWN);
        never("1 agree", Edge::nothing, (x, v) -> x.agree(v), UNKNOWN);
        never("1 sample", Edge::nothing, (x, v) -> x.sample(v, 0, 1), UNKNOWN);
        never("1 left", Edge::nothing, (x, v) -> x.left(v), UNKNOWN);
        never("1 put", Edge::nothing, (x, v) -> x.put(v, v), UNKNOWN);
        never("1 standard", Edge::nothing, (x, v) -> x.standard(v, 1, 1), UNKNOWN);
        never("1 blank", Edge::nothing, (x, v) -> x.blank(v), UNKNOWN);
        never("1 twice", Edge::nothing, (x, v) -> x.twice(v, 0), UNKNOWN);
        never("1 result", Edge::nothing, (x, v) -> x.result(v, 0, 1), UNKNOWN);
        never("1 sound", Edge::nothing, (x, v) -> x.sound(v), UNKNOWN);
        never("1 fault", Edge::nothing, (x, v) -> x.fault(v), UNKNOWN);
        never("1 swap", Edge::nothing, (x, v) -> x.swap(v), UNKNOWN);
        never("1 exchange", Edge::nothing, (x, v) -> x.exchange(v, 0), UNKNOWN);
        never("1 about", Edge::nothing, (x, v) -> x.about(v, 0, 0), UNKNOWN);
        never("1 grade", Edge::nothing, (x, v) -> x.grade(v, 0), UNKNOWN);
        never("1 composite", Edge::nothing, (x, v) -> x.composite(v, 0, 1, 1, 0), UNKNOWN);
        never("1 cost", Edge::nothing, (x, v) -> x.cost(v, v), UNKNOWN);
        never("1 matched", Edge::nothing, (x, v) -> x.matched(v, v, 0), UNKNOWN);
    }

    // ---- 2: "HOLES (4 at most, numbered as they come)"

    private void fourHoles() {
        due("2 the first", Edge::nothing, x -> x.hole(), 0);
        due("2 the second", x -> holes(x, 0), x -> x.hole(), 1);
        due("2 the fourth", x -> holes(x, 0, 0, 0), x -> x.hole(), 3);
        due("2 four are counted", x -> holes(x, 0, 0, 0, 0), x -> x.count(0), 4);
        unchanged("2 the fifth", x -> holes(x, 0, 0, 0, 0), x -> x.hole(), FULL);
        unchanged("2 behind a refused one", x -> holes(x, 0, 0, 0, 0, 0), x -> x.hole(), FULL);
        unchanged("2 the fifth of full ones", x -> holes(x, 1000, 1000, 1000, 1000), x -> x.hole(), FULL);
    }

    private void holesAreNumberedAsTheyCome() {
        due("2 behind calls of other sorts", x -> {
            samples(x, 3);
            batches(x, 2);
            x.mark(0, 5);
        }, x -> x.hole(), 1);
        due("2 a new one has END 0", x -> holes(x, 5, 0), x -> x.end(1), 0);
        due("2 a new one has no MARKS", x -> {
            holes(x, 5, 0);
            x.mark(0, 3);
        }, x -> x.isWrong(1, 0), UNKNOWN);
    }

    // ---- 3: "RUNS (20 at most), each DRILLED (1 to 1000) and of that RECOVERED (0 to DRILLED) units"

    private void runNamesAHole() {
        range("3 h of one", x -> holes(x, 0), (x, v) -> x.run(v, 7, 7), 0, 7, 0, 7, UNKNOWN);
        range("3 h of four", x -> holes(x, 1, 2, 3, 4), (x, v) -> x.run(v, 7, 7), 0, 8, 3, 11, UNKNOWN);
    }

    private void drilled() {
        range("3 DRILLED, nothing RECOVERED", x -> holes(x, 0), (x, v) -> x.run(0, v, 0), 1, 1, 1000, 1000, OUTSIDE);
        range("3 DRILLED, all RECOVERED", x -> holes(x, 0), (x, v) -> x.run(0, v, v), 1, 1, 1000, 1000, OUTSIDE);
        range("3 DRILLED behind another RUN", x -> holes(x, 9), (x, v) -> x.run(0, v, 0), 1, 10, 1000, 1009, OUTSIDE);
        range("3 DRILLED not below RECOVERED", x -> holes(x, 0), (x, v) -> x.run(0, v, 1000), 1000, 1000, 1000, 1000,
            OUTSIDE);
    }

    private void recoveredOfARun() {
        range("3 RECOVERED of 1", x -> holes(x, 0), (x, v) -> x.run(0, 1, v), 0, 1, 1, 1, OUTSIDE);
        range("3 RECOVERED of 5", x -> holes(x, 0), (x, v) -> x.run(0, 5, v), 0, 5, 5, 5, OUTSIDE);
        range("3 RECOVERED of 1000", x -> holes(x, 0), (x, v) -> x.run(0, 1000, v), 0, 1000, 1000, 1000, OUTSIDE);
    }

    private static void twenty(CoreShed x) {
        holes(x, 0, 0);
        runs(x, 0, 20, 1000, 999);
    }

    private void twentyRuns() {
        due("3 the twentieth", x -> {
            holes(x, 0);
            runs(x, 0, 19, 1000, 999);
        }, x -> x.run(0, 1000, 0), 20000);
        unchanged("3 the twenty-first", HolesEdgeTest::twenty, x -> x.run(0, 1, 1), FULL);
        unchanged("3 the twenty-first once more", x -> {
            twenty(x);
            x.run(0, 1, 1);
        }, x -> x.run(0, 1000, 1000), FULL);
        due("3 another HOLE is not full", HolesEdgeTest::twenty, x -> x.run(1, 4, 1), 4);
        due("3 the greatest END", HolesEdgeTest::twenty, x -> x.end(0), 20000);
        due("3 the greatest STRETCH", HolesEdgeTest::twenty, x -> x.recovered(0, 0, 20000), 19980);
        due("3 its last unit is LOST", HolesEdgeTest::twenty, x -> x.recovered(0, 19999, 20000), 0);
        due("3 its last RECOVERED unit", HolesEdgeTest::twenty, x -> x.recovered(0, 19998, 19999), 1);
    }

    // ---- 3: "STATE: the HOLE has a LOG or a SAMPLE"

    private void runsOfALoggedHole() {
        for (int log = 0; log <= 1; log++) {
            int which = log;
            Start logged = x -> {
                holes(x, 10, 10);
                x.layer(0, which, 1, 0);
            };
            unchanged("3 the HOLE has LOG " + log, logged, x -> x.run(0, 1, 1), STATE);
            due("3 another HOLE has LOG " + log, logged, x -> x.run(1, 1, 1), 11);
        }
    }

    private void runsOfASampledHole() {
        Start sampled = x -> {
            holes(x, 10, 10, 10);
            x.sample(1, 9, 10);
        };
        unchanged("3 the HOLE has a SAMPLE", sampled, x -> x.run(1, 1, 1), STATE);
        due("3 the HOLE ahead has one", sampled, x -> x.run(2, 1, 1), 11);
        due("3 the HOLE behind has one", sampled, x -> x.run(0, 1, 1), 11);
        unchanged("3 the HOLE has the thirtieth SAMPLE", x -> {
            samples(x, 29);
            holes(x, 10);
            x.sample(1, 0, 1);
        }, x -> x.run(1, 1, 1), STATE);
    }

    private void refusedCallsLeaveTheRunsOpen() {
        due("3 behind a refused LAYER", x -> {
            holes(x, 10);
            x.layer(0, 0, 11, 1);
            x.layer(0, 1, 5, 10);
        }, x -> x.run(0, 1, 1), 11);
        due("3 behind a refused SAMPLE", x -> {
            holes(x, 10);
            x.run(0, 10, 0);
            x.sample(0, 10, 20);
            x.sample(0, 5, 21);
        }, x -> x.run(0, 1, 1), 21);
        due("3 behind MARKS", x -> {
            holes(x, 10);
            marks(x, 0, 5, 99);
        }, x -> x.run(0, 1, 1), 11);
    }

    // ---- 3: "UNKNOWN; OUTSIDE; STATE ...; FULL"

    private void runRefusalsInOrder() {
        unchanged("3 UNKNOWN ahead of DRILLED", x -> holes(x, 5), x -> x.run(1, 0, 0), UNKNOWN);
        unchanged("3 UNKNOWN ahead of RECOVERED", x -> holes(x, 5), x -> x.run(-1, 5, 6), UNKNOWN);
        Start logged = x -> {
            twenty(x);
            x.layer(0, 1, 1, 0);
        };
        Start sampled = x -> {
            twenty(x);
            x.sample(0, 0, 1);
        };
        unchanged("3 DRILLED ahead of FULL", HolesEdgeTest::twenty, x -> x.run(0, 0, 0), OUTSIDE);
        unchanged("3 RECOVERED ahead of FULL", HolesEdgeTest::twenty, x -> x.run(0, 5, 6), OUTSIDE);
        unchanged("3 DRILLED ahead of a LOG", logged, x -> x.run(0, 1001, 0), OUTSIDE);
        unchanged("3 RECOVERED ahead of a LOG", logged, x -> x.run(0, 5, -1), OUTSIDE);
        unchanged("3 DRILLED ahead of a SAMPLE", sampled, x -> x.run(0, 1001, 0), OUTSIDE);
        unchanged("3 RECOVERED ahead of a SAMPLE", sampled, x -> x.run(0, 5, -1), OUTSIDE);
        unchanged("3 a LOG ahead of FULL", logged, x -> x.run(0, 1, 1), STATE);
        unchanged("3 a SAMPLE ahead of FULL", sampled, x -> x.run(0, 1, 1), STATE);
        unchanged("3 UNKNOWN ahead of all", sampled, x -> x.run(2, 0, 1), UNKNOWN);
    }

    // ---- 4

    private void end() {
        range("4 h of one", x -> holes(x, 0), (x, v) -> x.end(v), 0, 0, 0, 0, UNKNOWN);
        range("4 h of four", x -> holes(x, 1, 0, 0, 1000), (x, v) -> x.end(v), 0, 1, 3, 1000, UNKNOWN);
        unchanged("4 it only asks", x -> holes(x, 3, 0), x -> x.end(0), 3);
    }

    // ---- 5: "A STRETCH (a, b) is from a to b, 0 to END, a below b."

    private static void threeRuns(CoreShed x) {
        x.hole();
        x.run(0, 10, 6);
        x.run(0, 5, 0);
        x.run(0, 8, 8);
    }

    private void recoveredNamesAHole() {
        range("5 h of one", x -> holes(x, 5), (x, v) -> x.recovered(v, 0, 5), 0, 5, 0, 5, UNKNOWN);
        range("5 h of four", x -> holes(x, 5, 6, 7, 8), (x, v) -> x.recovered(v, 4, 5), 0, 1, 3, 1, UNKNOWN);
        unchanged("5 UNKNOWN ahead of no STRETCH", x -> holes(x, 5), x -> x.recovered(1, 5, 4), UNKNOWN);
    }

    private void stretchOfRecovered() {
        Start start = HolesEdgeTest::threeRuns;
        range("5 a ahead of END", start, (x, v) -> x.recovered(0, v, 23), 0, 14, 22, 1, OUTSIDE);
        range("5 a ahead of 1", start, (x, v) -> x.recovered(0, v, 1), 0, 1, 0, 1, OUTSIDE);
        range("5 b behind 0", start, (x, v) -> x.recovered(0, 0, v), 1, 1, 23, 14, OUTSIDE);
        range("5 b behind the last unit's top", start, (x, v) -> x.recovered(0, 22, v), 23, 1, 23, 1, OUTSIDE);
        unchanged("5 a is b at 0", start, x -> x.recovered(0, 0, 0), OUTSIDE);
        unchanged("5 a is b at END", start, x -> x.recovered(0, 23, 23), OUTSIDE);
        unchanged("5 a above b", start, x -> x.recovered(0, 9, 8), OUTSIDE);
        unchanged("5 both ends of int", start, x -> x.recovered(0, LOWEST, HIGHEST), OUTSIDE);
        unchanged("5 both ends of int the other way", start, x -> x.recovered(0, HIGHEST, LOWEST), OUTSIDE);
        unchanged("5 it only asks", start, x -> x.recovered(0, 5, 16), 2);
    }

    private void everyStretch() {
        boolean[] core = new boolean[23];
        for (int u = 0; u < core.length; u++) {
            core[u] = u < 6 || u >= 15;
        }
        for (int a = -1; a <= 24; a++) {
            for (int b = -1; b <= 24; b++) {
                int from = a, to = b, units = 0;
                boolean stretch = a >= 0 && a < b && b <= 23;
                for (int u = a; stretch && u < b; u++) {
                    units += core[u] ? 1 : 0;
                }
                due("5 from " + a + " to " + b, HolesEdgeTest::threeRuns, x -> x.recovered(0, from, to),
                    stretch ? units : OUTSIDE);
            }
        }
    }

    private void noStretchWithoutRuns() {
        never("5 a of a HOLE without RUNS", x -> holes(x, 0), (x, v) -> x.recovered(0, v, 1), OUTSIDE);
        never("5 b of a HOLE without RUNS", x -> holes(x, 0), (x, v) -> x.recovered(0, 0, v), OUTSIDE);
        unchanged("5 END of another HOLE", x -> holes(x, 5, 9), x -> x.recovered(0, 0, 9), OUTSIDE);
    }

    // ---- 5: "In a RUN what is RECOVERED lies first, what is LOST behind it."

    private void recoveredLiesFirst() {
        Start start = HolesEdgeTest::threeRuns;
        due("5 the last unit RECOVERED", start, x -> x.recovered(0, 5, 6), 1);
        due("5 the first unit LOST", start, x -> x.recovered(0, 6, 7), 0);
        due("5 the last unit of a RUN", start, x -> x.recovered(0, 9, 10), 0);
        due("5 a RUN with nothing RECOVERED", start, x -> x.recovered(0, 10, 15), 0);
        due("5 the first unit of a RUN", start, x -> x.recovered(0, 15, 16), 1);
        due("5 a RUN with all RECOVERED", start, x -> x.recovered(0, 15, 23), 8);
        due("5 a RUN of 1 with nothing", x -> {
            x.hole();
            x.run(0, 1, 0);
        }, x -> x.recovered(0, 0, 1), 0);
        due("5 a RUN of 1 with all", x -> holes(x, 1), x -> x.recovered(0, 0, 1), 1);
    }

    // ---- 6: "MARKS of a HOLE (20 at most, in order) are depths (0 to 100000)."

    private void markNamesAHole() {
        range("6 h of one", x -> holes(x, 0), (x, v) -> x.mark(v, 7), 0, 1, 0, 1, UNKNOWN);
        range("6 h of four", x -> holes(x, 0, 0, 0, 0), (x, v) -> x.mark(v, 7), 0, 1, 3, 1, UNKNOWN);
    }

    private void depthOfAMark() {
        range("6 depth, HOLE without RUNS", x -> holes(x, 0), (x, v) -> x.mark(0, v), 0, 1, 100000, 1, OUTSIDE);
        range("6 depth behind another", x -> {
            holes(x, 9);
            x.mark(0, 100000);
        }, (x, v) -> x.mark(0, v), 0, 2, 100000, 2, OUTSIDE);
        due("6 END does not bound it", x -> holes(x, 9), x -> x.mark(0, 10), 1);
        due("6 MARKS stay in order", x -> {
            holes(x, 9);
            marks(x, 0, 8, 3);
        }, x -> x.isWrong(0, 0), 0);
    }

    private static void twentyMarks(CoreShed x) {
        holes(x, 50, 50);
        marks(x, 0, 20, 19, 18, 17, 16, 15, 14, 13, 12, 11, 10, 9, 8, 7, 6, 5, 4, 3, 2, 1);
    }

    private void twentyMarks() {
        due("6 the twentieth", x -> {
            holes(x, 50);
            marks(x, 0, 0, 0, 0, 0, 0, 0, 0, 0, 0, 0, 0, 0, 0, 0, 0, 0, 0, 0, 0);
        }, x -> x.mark(0, 5), 20);
        unchanged("6 the twenty-first", HolesEdgeTest::twentyMarks, x -> x.mark(0, 5), FULL);
        unchanged("6 the twenty-first once more", x -> {
            twentyMarks(x);
            x.mark(0, 5);
        }, x -> x.mark(0, 0), FULL);
        due("6 another HOLE is not full", HolesEdgeTest::twentyMarks, x -> x.mark(1, 5), 1);
    }

    private void markRefusalsInOrder() {
        unchanged("6 UNKNOWN ahead of OUTSIDE", x -> holes(x, 9), x -> x.mark(1, -1), UNKNOWN);
        unchanged("6 UNKNOWN ahead of OUTSIDE above", x -> holes(x, 9), x -> x.mark(-1, 100001), UNKNOWN);
        unchanged("6 OUTSIDE below ahead of FULL", HolesEdgeTest::twentyMarks, x -> x.mark(0, -1), OUTSIDE);
        unchanged("6 OUTSIDE above ahead of FULL", HolesEdgeTest::twentyMarks, x -> x.mark(0, 100001), OUTSIDE);
        unchanged("6 UNKNOWN ahead of all", HolesEdgeTest::twentyMarks, x -> x.mark(2, -1), UNKNOWN);
    }

    // ---- 7, 8: THE MEND

    private void wrongNamesAHole() {
        range("7 h of one", x -> holes(x, 0), (x, v) -> x.wrong(v), 0, 0, 0, 0, UNKNOWN);
        range("7 h of four", x -> {
            holes(x, 9, 9, 9, 9);
            marks(x, 0, 3, 3);
            marks(x, 3, 10, 11, 2);
        }, (x, v) -> x.wrong(v), 0, 1, 3, 2, UNKNOWN);
        unchanged("7 it only asks", HolesEdgeTest::twentyMarks, x -> x.wrong(0), 19);
    }

    private void isWrongNamesAMark() {
        Start start = x -> {
            holes(x, 9, 9, 9, 9);
            marks(x, 0, 3);
            marks(x, 3, 9, 4, 10);
        };
        range("8 h", start, (x, v) -> x.isWrong(v, 0), 0, 0, 0, 0, UNKNOWN);
        range("8 h, the last", start, (x, v) -> x.isWrong(v, 2), 3, 1, 3, 1, UNKNOWN);
        range("8 k of one", start, (x, v) -> x.isWrong(0, v), 0, 0, 0, 0, UNKNOWN);
        range("8 k of three", start, (x, v) -> x.isWrong(3, v), 0, 0, 2, 1, UNKNOWN);
        never("8 k of none", start, (x, v) -> x.isWrong(1, v), UNKNOWN);
        range("8 k of twenty", HolesEdgeTest::twentyMarks, (x, v) -> x.isWrong(0, v), 0, 0, 19, 1, UNKNOWN);
        unchanged("8 it only asks", start, x -> x.isWrong(3, 1), 1);
    }

    /** All MARKS of a HOLE of that END; want has a 1 for each that is WRONG. */
    private void mend(String what, int bottom, int[] depths, int... want) {
        Start start = x -> {
            x.hole();
            for (int left = bottom; left > 0; left -= 1000) {
                x.run(0, Math.min(left, 1000), 0);
            }
            marks(x, 0, depths);
        };
        int many = 0;
        for (int k = 0; k < want.length; k++) {
            int which = k;
            many += want[k];
            unchanged("8 " + what + ", MARK " + k, start, x -> x.isWrong(0, which), want[k]);
        }
        unchanged("7 " + what, start, x -> x.wrong(0), many);
        unchanged("8 " + what + ", behind the last", start, x -> x.isWrong(0, want.length), UNKNOWN);
    }

    private static int[] of(int... numbers) {
        return numbers;
    }

    private void marksThatRise() {
        mend("no MARK", 50, of());
        mend("one", 50, of(7), 0);
        mend("one above the one ahead", 50, of(7, 8), 0, 0);
        mend("the same as the one ahead", 50, of(7, 7), 0, 1);
        mend("one below the one ahead", 50, of(7, 6), 0, 1);
        mend("the same with one in between", 50, of(7, 8, 7, 8), 0, 0, 1, 1);
        mend("above the one chosen, not the one ahead", 50, of(1, 40, 2, 3), 0, 1, 0, 0);
    }

    private void marksAgainstEnd() {
        mend("at END", 50, of(50), 0);
        mend("one above END", 50, of(51), 1);
        mend("the deepest", 50, of(100000), 1);
        mend("all above END", 50, of(51, 52, 53), 1, 1, 1);
        mend("one above END in between", 50, of(10, 51, 50), 0, 1, 0);
        mend("END 0", 0, of(0), 0);
        mend("END 0 and deeper", 0, of(1, 0), 1, 0);
        mend("the greatest END", 20000, of(20001, 19999, 20000), 1, 0, 0);
        due("7 a RUN more moves END", x -> {
            holes(x, 50);
            marks(x, 0, 51);
            x.run(0, 1, 0);
        }, x -> x.wrong(0), 0);
        due("7 a RUN more changes the choice", x -> {
            holes(x, 50);
            marks(x, 0, 60, 10, 70);
            x.run(0, 20, 0);
        }, x -> x.isWrong(0, 1), 1);
    }

    private void severalChoices() {
        mend("the first rather than the second", 50, of(12, 9, 20), 0, 1, 0);
        mend("the first rather than the third", 50, of(12, 11, 10), 0, 1, 1);
        mend("the second rather than the third", 50, of(1, 30, 20, 40), 0, 0, 1, 0);
        mend("the last but one rather than the last", 50, of(1, 2, 9, 8), 0, 0, 0, 1);
        mend("no choice has the first", 50, of(40, 5, 4, 6, 7), 1, 0, 1, 0, 0);
        mend("many rather than the first", 50, of(49, 1, 2), 1, 0, 0);
        mend("the first and the last rather than both in between", 50, of(5, 3, 4, 6, 7, 1), 1, 0, 0, 0, 0, 1);
        mend("the first half rather than the second", 50, of(20, 30, 1, 2), 0, 0, 1, 1);
        mend("twice two that fall", 50, of(4, 3, 8, 7), 0, 1, 0, 1);
    }

    private void mendOfTwenty() {
        int[] rising = new int[20];
        int[] falling = new int[20];
        int[] none = new int[20];
        int[] allButFirst = new int[20];
        for (int k = 0; k < 20; k++) {
            rising[k] = k;
            falling[k] = 19 - k;
            allButFirst[k] = k == 0 ? 0 : 1;
        }
        mend("twenty that rise to END", 19, rising, none);
        mend("twenty that fall", 19, falling, allButFirst);
        mend("twenty that are the same", 19, new int[20], allButFirst);
        int[] lastOnly = new int[20];
        java.util.Arrays.fill(lastOnly, 1);
        lastOnly[19] = 0;
        mend("only the last is not above END", 0, falling, lastOnly);
    }

    private void mendOfOneHoleAfterAnother() {
        Start start = x -> {
            twentyMarks(x);
            marks(x, 1, 3, 9, 4);
            x.hole();
            x.wrong(0);
            x.isWrong(0, 19);
        };
        due("7 few MARKS behind many", start, x -> x.wrong(1), 1);
        due("8 few MARKS behind many", start, x -> x.isWrong(1, 1), 0);
        due("8 few MARKS behind many, the last", start, x -> x.isWrong(1, 2), 1);
        due("7 no MARKS behind many", start, x -> x.wrong(2), 0);
        due("7 many MARKS behind none", x -> {
            start.on(x);
            x.wrong(2);
        }, x -> x.wrong(0), 19);
    }
}
