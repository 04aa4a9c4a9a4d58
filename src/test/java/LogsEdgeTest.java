/** Boundary cases of promises 9 to 12: LOGS, LAYERS, THE TABLE and where both LOGS AGREE. */
public final class LogsEdgeTest extends Edge {
    private LogsEdgeTest() {
        super("LogsEdgeTest");
    }

    public static void main(String[] args) {
        LogsEdgeTest test = new LogsEdgeTest();
        test.layerNamesAHoleAndALog();
        test.depthOfTheFirstLayer();
        test.depthOfALaterLayer();
        test.layersOfAHoleWithoutRuns();
        test.codeOfALayer();
        test.twentyLayers();
        test.layerRefusalsInOrder();
        test.logsAreApart();
        test.codeOfTheTable();
        test.codeTellsWhatItMade();
        test.rockNamesAHoleAndALog();
        test.unitsOfRock();
        test.rockOfAFullLog();
        test.rockByTheTable();
        test.agreeNamesAHole();
        test.logsThatDoNotMeet();
        test.unitsThatAgree();
        test.agreeByTheTable();
        test.agreeOfFullLogs();
        test.finish();
    }

    // ---- 9: "A LOG (0 or 1) of a HOLE"

    private void layerNamesAHoleAndALog() {
        range("9 h of one", x -> holes(x, 9), (x, v) -> x.layer(v, 0, 5, 1), 0, 1, 0, 1, UNKNOWN);
        range("9 h of four", x -> holes(x, 9, 9, 9, 9), (x, v) -> x.layer(v, 1, 5, 1), 0, 1, 3, 1, UNKNOWN);
        range("9 log", x -> holes(x, 9), (x, v) -> x.layer(0, v, 5, 1), 0, 1, 1, 1, UNKNOWN);
        range("9 log of the last HOLE", x -> holes(x, 9, 9, 9, 9), (x, v) -> x.layer(3, v, 5, 1), 0, 1, 1, 1, UNKNOWN);
    }

    // ---- 9: "each to a depth above the one ahead ...; the first begins at 0", "or above END"

    private void depthOfTheFirstLayer() {
        for (int log = 0; log <= 1; log++) {
            int which = log;
            range("9 depth of the first, LOG " + log, x -> holes(x, 9), (x, v) -> x.layer(0, which, v, 1), 1, 1, 9, 1,
                OUTSIDE);
        }
        range("9 depth in a HOLE of 1", x -> holes(x, 1), (x, v) -> x.layer(0, 0, v, 1), 1, 1, 1, 1, OUTSIDE);
        range("9 depth in the deepest HOLE", x -> {
            x.hole();
            runs(x, 0, 20, 1000, 1000);
        }, (x, v) -> x.layer(0, 0, v, 1), 1, 1, 20000, 1, OUTSIDE);
    }

    private void depthOfALaterLayer() {
        for (int log = 0; log <= 1; log++) {
            int which = log;
            range("9 depth of the second, LOG " + log, x -> {
                holes(x, 9);
                x.layer(0, which, 4, 2);
            }, (x, v) -> x.layer(0, which, v, 1), 5, 2, 9, 2, OUTSIDE);
            range("9 depth where one unit is left, LOG " + log, x -> {
                holes(x, 9);
                layers(x, 0, which, 4, 2, 8, 2);
            }, (x, v) -> x.layer(0, which, v, 1), 9, 3, 9, 3, OUTSIDE);
        }
        Start toEnd = x -> {
            holes(x, 9);
            x.layer(0, 0, 9, 2);
        };
        never("9 no depth is left", toEnd, (x, v) -> x.layer(0, 0, v, 1), OUTSIDE);
        unchanged("9 END once more", toEnd, x -> x.layer(0, 0, 9, 1), OUTSIDE);
        unchanged("9 above END", toEnd, x -> x.layer(0, 0, 10, 1), OUTSIDE);
        due("9 a refused one is not the one ahead", x -> {
            holes(x, 9);
            x.layer(0, 0, 5, 10);
        }, x -> x.layer(0, 0, 3, 1), 1);
    }

    private void layersOfAHoleWithoutRuns() {
        never("9 END is 0", x -> holes(x, 0), (x, v) -> x.layer(0, 0, v, 1), OUTSIDE);
        unchanged("9 END of another HOLE", x -> holes(x, 4, 9), x -> x.layer(0, 0, 5, 1), OUTSIDE);
    }

    // ---- 9: "of a CODE 0 to 9"

    private void codeOfALayer() {
        range("9 CODE of the first", x -> holes(x, 9), (x, v) -> x.layer(0, 0, 5, v), 0, 1, 9, 1, OUTSIDE);
        range("9 CODE of the second", x -> {
            holes(x, 9);
            x.layer(0, 1, 4, 2);
        }, (x, v) -> x.layer(0, 1, 5, v), 0, 2, 9, 2, OUTSIDE);
        for (int c = 0; c <= 9; c++) {
            int code = c;
            due("9 CODE " + c + " stands", x -> {
                holes(x, 9);
                x.layer(0, 0, 5, code);
            }, x -> x.rock(0, 0, 4), code);
        }
    }

    // ---- 9: "LAYERS (20 at most)"

    private static void full(CoreShed x, int log) {
        holes(x, 30, 30);
        thinLayers(x, 0, log, 20, 3);
    }

    private void twentyLayers() {
        for (int log = 0; log <= 1; log++) {
            int which = log;
            due("9 the twentieth, LOG " + log, x -> {
                holes(x, 30);
                thinLayers(x, 0, which, 19, 3);
            }, x -> x.layer(0, which, 30, 3), 20);
            unchanged("9 the twenty-first, LOG " + log, x -> full(x, which), x -> x.layer(0, which, 21, 3), FULL);
            unchanged("9 the twenty-first to END, LOG " + log, x -> full(x, which), x -> x.layer(0, which, 30, 9), FULL);
            unchanged("9 the twenty-first once more, LOG " + log, x -> {
                full(x, which);
                x.layer(0, which, 21, 3);
            }, x -> x.layer(0, which, 21, 0), FULL);
            due("9 the other LOG is not full", x -> full(x, which), x -> x.layer(0, 1 - which, 1, 3), 1);
            due("9 another HOLE is not full", x -> full(x, which), x -> x.layer(1, which, 1, 3), 1);
        }
    }

    // ---- 9: "UNKNOWN: h, log; OUTSIDE ...; FULL"

    private void layerRefusalsInOrder() {
        unchanged("9 h ahead of depth", x -> holes(x, 9), x -> x.layer(1, 0, 10, 1), UNKNOWN);
        unchanged("9 h ahead of CODE", x -> holes(x, 9), x -> x.layer(-1, 0, 5, 10), UNKNOWN);
        unchanged("9 log ahead of depth", x -> holes(x, 9), x -> x.layer(0, 2, 0, 1), UNKNOWN);
        unchanged("9 log ahead of CODE", x -> holes(x, 9), x -> x.layer(0, -1, 5, -1), UNKNOWN);
        for (int log = 0; log <= 1; log++) {
            int which = log;
            Start start = x -> full(x, which);
            unchanged("9 depth not above the one ahead, ahead of FULL", start, x -> x.layer(0, which, 20, 3), OUTSIDE);
            unchanged("9 depth above END, ahead of FULL", start, x -> x.layer(0, which, 31, 3), OUTSIDE);
            unchanged("9 CODE above, ahead of FULL", start, x -> x.layer(0, which, 21, 10), OUTSIDE);
            unchanged("9 CODE below, ahead of FULL", start, x -> x.layer(0, which, 21, -1), OUTSIDE);
            unchanged("9 log ahead of FULL", start, x -> x.layer(0, 2, 21, 3), UNKNOWN);
            unchanged("9 h ahead of all", start, x -> x.layer(2, which, 20, 10), UNKNOWN);
        }
        unchanged("9 twenty to END: no depth is left, ahead of FULL", x -> {
            holes(x, 20);
            thinLayers(x, 0, 0, 20, 3);
        }, x -> x.layer(0, 0, 21, 3), OUTSIDE);
    }

    private void logsAreApart() {
        due("9 the one ahead is of the same LOG", x -> {
            holes(x, 9);
            x.layer(0, 0, 9, 1);
        }, x -> x.layer(0, 1, 1, 1), 1);
        due("9 the one ahead is of the same HOLE", x -> {
            holes(x, 9, 9);
            x.layer(0, 0, 9, 1);
        }, x -> x.layer(1, 0, 1, 1), 1);
        due("9 a SAMPLE does not hinder", x -> {
            holes(x, 9);
            x.sample(0, 0, 9);
        }, x -> x.layer(0, 0, 5, 1), 1);
    }

    // ---- 10: "UNKNOWN: code; OUTSIDE: to."

    private void codeOfTheTable() {
        range("10 code", Edge::nothing, (x, v) -> x.code(v, 5), 0, 0, 9, 9, UNKNOWN);
        range("10 to", Edge::nothing, (x, v) -> x.code(4, v), 0, 4, 9, 4, OUTSIDE);
        range("10 to, of the first CODE", Edge::nothing, (x, v) -> x.code(0, v), 0, 0, 9, 0, OUTSIDE);
        range("10 to, of the last CODE", Edge::nothing, (x, v) -> x.code(9, v), 0, 9, 9, 9, OUTSIDE);
        unchanged("10 code above ahead of to above", Edge::nothing, x -> x.code(10, 10), UNKNOWN);
        unchanged("10 code below ahead of to below", Edge::nothing, x -> x.code(-1, -1), UNKNOWN);
        unchanged("10 the ends of int", Edge::nothing, x -> x.code(LOWEST, HIGHEST), UNKNOWN);
    }

    private void codeTellsWhatItMade() {
        for (int c = 0; c <= 9; c++) {
            int code = c;
            due("10 itself at first", Edge::nothing, x -> x.code(code, 9 - code), code);
            due("10 what it made then", x -> x.code(code, 9 - code), x -> x.code(code, 5), 9 - code);
            becomes("10 back to itself", x -> x.code(code, 9 - code), x -> x.code(code, code), 9 - code, Edge::nothing);
        }
        due("10 a refused one is not what it made", x -> {
            x.code(4, 7);
            x.code(4, 10);
        }, x -> x.code(4, 4), 7);
        due("10 other CODES are apart", x -> x.code(4, 7), x -> x.code(7, 1), 7);
    }

    // ---- 11: "NONE: no LAYER has it. UNKNOWN: h, log."

    private static void twoLogs(CoreShed x) {
        holes(x, 30, 30);
        layers(x, 0, 0, 10, 1, 11, 2, 29, 3);
        layers(x, 0, 1, 30, 4);
    }

    private void rockNamesAHoleAndALog() {
        Start start = LogsEdgeTest::twoLogs;
        range("11 h", start, (x, v) -> x.rock(v, 0, 0), 0, 1, 1, NONE, UNKNOWN);
        range("11 log", start, (x, v) -> x.rock(0, v, 0), 0, 1, 1, 4, UNKNOWN);
        range("11 log of a HOLE without LAYERS", start, (x, v) -> x.rock(1, v, 0), 0, NONE, 1, NONE, UNKNOWN);
        range("11 h of four", x -> holes(x, 9, 9, 9, 9), (x, v) -> x.rock(v, 1, 0), 0, NONE, 3, NONE, UNKNOWN);
        unchanged("11 h, a unit that no LAYER has", start, x -> x.rock(2, 0, -1), UNKNOWN);
        unchanged("11 log, a unit that no LAYER has", start, x -> x.rock(0, 2, HIGHEST), UNKNOWN);
    }

    private void unitsOfRock() {
        int[] units = {LOWEST, LOWEST + 1, -2, -1, 0, 1, 9, 10, 11, 12, 28, 29, 30, 31, HIGHEST - 1, HIGHEST};
        int[] first = {NONE, NONE, NONE, NONE, 1, 1, 1, 2, 3, 3, 3, NONE, NONE, NONE, NONE, NONE};
        int[] second = {NONE, NONE, NONE, NONE, 4, 4, 4, 4, 4, 4, 4, 4, NONE, NONE, NONE, NONE};
        for (int i = 0; i < units.length; i++) {
            int unit = units[i];
            unchanged("11 LOG 0, unit " + unit, LogsEdgeTest::twoLogs, x -> x.rock(0, 0, unit), first[i]);
            unchanged("11 LOG 1 to END, unit " + unit, LogsEdgeTest::twoLogs, x -> x.rock(0, 1, unit), second[i]);
            unchanged("11 no LAYERS, unit " + unit, LogsEdgeTest::twoLogs, x -> x.rock(1, 0, unit), NONE);
            unchanged("11 no RUNS, unit " + unit, x -> holes(x, 0), x -> x.rock(0, 0, unit), NONE);
        }
    }

    private void rockOfAFullLog() {
        for (int log = 0; log <= 1; log++) {
            int which = log;
            due("11 the first of twenty", x -> full(x, which), x -> x.rock(0, which, 0), 3);
            due("11 the last of twenty", x -> full(x, which), x -> x.rock(0, which, 19), 3);
            due("11 behind the last of twenty", x -> full(x, which), x -> x.rock(0, which, 20), NONE);
            due("11 the other LOG has none", x -> full(x, which), x -> x.rock(0, 1 - which, 0), NONE);
        }
    }

    private void rockByTheTable() {
        due("11 THE TABLE of now", x -> {
            twoLogs(x);
            x.code(1, 9);
        }, x -> x.rock(0, 0, 0), 9);
        due("11 THE TABLE as it was when logged does not count", x -> {
            x.code(1, 9);
            twoLogs(x);
            x.code(1, 0);
        }, x -> x.rock(0, 0, 0), 0);
        due("11 once, not in a chain", x -> {
            twoLogs(x);
            x.code(1, 2);
            x.code(2, 3);
        }, x -> x.rock(0, 0, 9), 2);
        due("11 two that change places", x -> {
            twoLogs(x);
            x.code(1, 2);
            x.code(2, 1);
        }, x -> x.rock(0, 0, 10), 1);
    }

    // ---- 12: "Two LOGS AGREE where both have LAYERS whose CODES by THE TABLE are the same."

    private void agreeNamesAHole() {
        range("12 h of one", x -> holes(x, 0), (x, v) -> x.agree(v), 0, 0, 0, 0, UNKNOWN);
        range("12 h of four", x -> {
            holes(x, 9, 9, 9, 9);
            layers(x, 0, 0, 5, 1);
            layers(x, 0, 1, 4, 1);
            layers(x, 3, 0, 2, 1);
            layers(x, 3, 1, 9, 1);
        }, (x, v) -> x.agree(v), 0, 4, 3, 2, UNKNOWN);
    }

    private void agreeing(String what, int[] first, int[] second, int want) {
        unchanged("12 " + what, x -> {
            holes(x, 30);
            layers(x, 0, 0, first);
            layers(x, 0, 1, second);
        }, x -> x.agree(0), want);
        unchanged("12 " + what + ", the LOGS the other way", x -> {
            holes(x, 30);
            layers(x, 0, 0, second);
            layers(x, 0, 1, first);
        }, x -> x.agree(0), want);
    }

    private static int[] of(int... numbers) {
        return numbers;
    }

    private void logsThatDoNotMeet() {
        agreeing("no LAYERS", of(), of(), 0);
        agreeing("one LOG alone", of(30, 1), of(), 0);
        agreeing("no CODE in common", of(30, 1), of(30, 2), 0);
        agreeing("the same CODE one behind the other", of(10, 1, 20, 2), of(10, 2, 20, 1), 0);
        unchanged("12 the LOGS of two HOLES", x -> {
            holes(x, 9, 9);
            x.layer(0, 0, 9, 1);
            x.layer(1, 1, 9, 1);
        }, x -> x.agree(0), 0);
    }

    private void unitsThatAgree() {
        agreeing("one unit", of(1, 1), of(30, 1), 1);
        agreeing("all units", of(30, 1), of(30, 1), 30);
        agreeing("to the end of the shorter one", of(12, 1), of(13, 1), 12);
        agreeing("one unit at a border", of(10, 1, 20, 2), of(9, 1, 20, 2), 19);
        agreeing("one unit across a border", of(10, 1, 20, 2), of(11, 3, 12, 2), 1);
        agreeing("the last unit alone", of(29, 1, 30, 2), of(29, 3, 30, 2), 1);
        agreeing("CODES 0 and 9", of(5, 0, 10, 9), of(5, 0, 10, 9), 10);
        agreeing("one LAYER over many", of(1, 1, 2, 2, 3, 1, 4, 2, 5, 1), of(30, 1), 3);
    }

    private void agreeByTheTable() {
        Start start = x -> {
            holes(x, 30);
            layers(x, 0, 0, 10, 1);
            layers(x, 0, 1, 10, 2);
        };
        due("12 the one made the other", x -> {
            start.on(x);
            x.code(1, 2);
        }, x -> x.agree(0), 10);
        due("12 both made a third", x -> {
            start.on(x);
            x.code(1, 7);
            x.code(2, 7);
        }, x -> x.agree(0), 10);
        due("12 both changed, not in a chain", x -> {
            start.on(x);
            x.code(1, 2);
            x.code(2, 3);
        }, x -> x.agree(0), 0);
        due("12 made unlike again", x -> {
            start.on(x);
            x.code(1, 2);
            x.code(1, 1);
        }, x -> x.agree(0), 0);
    }

    private void agreeOfFullLogs() {
        due("12 twenty LAYERS each", x -> {
            holes(x, 30);
            thinLayers(x, 0, 0, 20, 5);
            thinLayers(x, 0, 1, 20, 5);
        }, x -> x.agree(0), 20);
        due("12 twenty LAYERS and none", x -> full(x, 0), x -> x.agree(0), 0);
        due("12 the deepest HOLE", x -> {
            x.hole();
            runs(x, 0, 20, 1000, 0);
            x.layer(0, 0, 20000, 1);
            x.layer(0, 1, 20000, 1);
        }, x -> x.agree(0), 20000);
    }
}
