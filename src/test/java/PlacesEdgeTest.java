/** Boundary cases of promises 16 to 21, 25 and 26: PLACES of BATCHES, the laws, and RESULTS. */
public final class PlacesEdgeTest extends Edge {
    private PlacesEdgeTest() {
        super("PlacesEdgeTest");
    }

    public static void main(String[] args) {
        PlacesEdgeTest test = new PlacesEdgeTest();
        test.putNamesABatchAndASample();
        test.putNeedsAQuarter();
        test.putBehindAResult();
        test.putTwice();
        test.sixteenSamples();
        test.putRefusalsInOrder();
        test.standardNamesABatch();
        test.numbersOfAStandard();
        test.standardBehindAResult();
        test.standardRefusalsInOrder();
        test.blankNamesABatch();
        test.blankRefusalsInOrder();
        test.twiceNamesABatchAndAPlace();
        test.twiceOfOtherSorts();
        test.twiceNeedsAQuarter();
        test.twiceBehindAResult();
        test.twiceRefusalsInOrder();
        test.laws();
        test.resultNamesABatchAndAPlace();
        test.numberOfAResult();
        test.laterResults();
        test.exchangeNamesTwoPlaces();
        test.exchangeNeedsBothResults();
        test.exchangeOfTheLastTwo();
        test.aboutNamesABatchAndAPlace();
        test.aboutEachSort();
        test.aboutTheEdgesOfNumbers();
        test.finish();
    }

    /** BATCH 0: SAMPLE 0, a STANDARD, a BLANK, a DOUBLE of PLACE 0; BATCH 1 is empty; SAMPLES 1 and 2 are free. */
    private static void fourSorts(CoreShed x) {
        samples(x, 3);
        batches(x, 2);
        x.put(0, 0);
        x.standard(0, 500, 20);
        x.blank(0);
        x.twice(0, 0);
    }

    /** SAMPLE 0 has no QUARTER left, and is in BATCHES 0 to 3. */
    private static void noQuarter(CoreShed x) {
        samples(x, 2);
        batches(x, 6);
        for (int b = 0; b < 4; b++) {
            x.put(b, 0);
        }
    }

    // ---- 16: "UNKNOWN: b, s"

    private void putNamesABatchAndASample() {
        never("16 no BATCHES", x -> samples(x, 1), (x, v) -> x.put(v, 0), UNKNOWN);
        never("16 no SAMPLES", x -> batches(x, 1), (x, v) -> x.put(0, v), UNKNOWN);
        Start start = x -> {
            samples(x, 3);
            batches(x, 2);
        };
        range("16 b", start, (x, v) -> x.put(v, 0), 0, 0, 1, 0, UNKNOWN);
        range("16 s", start, (x, v) -> x.put(0, v), 0, 0, 2, 0, UNKNOWN);
        unchanged("16 both", start, x -> x.put(2, 3), UNKNOWN);
        range("16 b of six", x -> {
            samples(x, 1);
            batches(x, 6);
        }, (x, v) -> x.put(v, 0), 0, 0, 5, 0, UNKNOWN);
        range("16 s of thirty", x -> {
            samples(x, 30);
            batches(x, 1);
        }, (x, v) -> x.put(0, v), 0, 0, 29, 0, UNKNOWN);
    }

    // ---- 16: "STATE: it has no QUARTER, a PLACE has a RESULT already, or the BATCH has it already"

    private void putNeedsAQuarter() {
        due("16 the last QUARTER", x -> {
            samples(x, 1);
            batches(x, 4);
            x.put(0, 0);
            x.put(1, 0);
            x.put(2, 0);
        }, x -> x.put(3, 0), 0);
        unchanged("16 no QUARTER", PlacesEdgeTest::noQuarter, x -> x.put(4, 0), STATE);
        unchanged("16 no QUARTER, by DOUBLES", x -> {
            samples(x, 1);
            batches(x, 2);
            x.put(0, 0);
            x.twice(0, 0);
            x.twice(0, 0);
            x.twice(0, 0);
        }, x -> x.put(1, 0), STATE);
        due("16 another SAMPLE has some", PlacesEdgeTest::noQuarter, x -> x.put(4, 1), 0);
    }

    private void putBehindAResult() {
        for (int p = 0; p <= 3; p++) {
            int place = p;
            Start start = x -> {
                fourSorts(x);
                x.result(0, place, 0);
            };
            unchanged("16 PLACE " + p + " has a RESULT", start, x -> x.put(0, 1), STATE);
            due("16 a PLACE of another BATCH has one", start, x -> x.put(1, 1), 0);
        }
        due("16 behind a refused RESULT", x -> {
            fourSorts(x);
            x.result(0, 0, 100001);
            x.result(0, 4, 1);
        }, x -> x.put(0, 1), 4);
    }

    private void putTwice() {
        unchanged("16 the BATCH has it", PlacesEdgeTest::fourSorts, x -> x.put(0, 0), STATE);
        due("16 another BATCH has it", PlacesEdgeTest::fourSorts, x -> x.put(1, 0), 0);
        unchanged("16 the BATCH has it at the last PLACE", x -> {
            samples(x, 16);
            batches(x, 1);
            blanks(x, 0, 14);
            x.put(0, 15);
        }, x -> x.put(0, 15), STATE);
        due("16 a due number is no SAMPLE", x -> {
            samples(x, 3);
            batches(x, 1);
            x.standard(0, 2, 2);
        }, x -> x.put(0, 2), 1);
        due("16 a doubled PLACE is no SAMPLE", x -> {
            samples(x, 3);
            batches(x, 1);
            blanks(x, 0, 1);
            x.put(0, 0);
            x.twice(0, 1);
        }, x -> x.put(0, 1), 3);
    }

    // ---- 2: "PLACES (16 at most)"

    private static void sixteen(CoreShed x) {
        samples(x, 18);
        batches(x, 2);
        for (int s = 0; s < 16; s++) {
            x.put(0, s);
        }
    }

    private void sixteenSamples() {
        due("16 the sixteenth", x -> {
            samples(x, 1);
            batches(x, 1);
            blanks(x, 0, 15);
        }, x -> x.put(0, 0), 15);
        unchanged("16 the seventeenth", PlacesEdgeTest::sixteen, x -> x.put(0, 16), FULL);
        unchanged("16 the seventeenth once more", x -> {
            sixteen(x);
            x.put(0, 16);
        }, x -> x.put(0, 17), FULL);
        due("16 another BATCH is not full", PlacesEdgeTest::sixteen, x -> x.put(1, 16), 0);
    }

    private static void sixteenWithoutQuarter(CoreShed x) {
        noQuarter(x);
        blanks(x, 4, 16);
    }

    private void putRefusalsInOrder() {
        unchanged("16 b ahead of no QUARTER", PlacesEdgeTest::noQuarter, x -> x.put(6, 0), UNKNOWN);
        unchanged("16 s ahead of FULL", PlacesEdgeTest::sixteen, x -> x.put(0, 18), UNKNOWN);
        unchanged("16 s ahead of a RESULT", x -> {
            fourSorts(x);
            x.result(0, 0, 0);
        }, x -> x.put(0, 3), UNKNOWN);
        unchanged("16 no QUARTER ahead of FULL", PlacesEdgeTest::sixteenWithoutQuarter, x -> x.put(4, 0), STATE);
        unchanged("16 a RESULT ahead of FULL", x -> {
            sixteen(x);
            x.result(0, 15, 0);
        }, x -> x.put(0, 16), STATE);
        unchanged("16 the BATCH has it ahead of FULL", PlacesEdgeTest::sixteen, x -> x.put(0, 15), STATE);
    }

    // ---- 17: "a number that is due, 0 to 100000, and by how much it may be off, 0 to 10000"

    private void standardNamesABatch() {
        never("17 no BATCHES", Edge::nothing, (x, v) -> x.standard(v, 0, 0), UNKNOWN);
        range("17 b of six", x -> batches(x, 6), (x, v) -> x.standard(v, 0, 0), 0, 0, 5, 0, UNKNOWN);
    }

    private void numbersOfAStandard() {
        Start start = x -> batches(x, 1);
        range("17 due, off 0", start, (x, v) -> x.standard(0, v, 0), 0, 0, 100000, 0, OUTSIDE);
        range("17 due, off 10000", start, (x, v) -> x.standard(0, v, 10000), 0, 0, 100000, 0, OUTSIDE);
        range("17 off, due 0", start, (x, v) -> x.standard(0, 0, v), 0, 0, 10000, 0, OUTSIDE);
        range("17 off, due 100000", start, (x, v) -> x.standard(0, 100000, v), 0, 0, 10000, 0, OUTSIDE);
        unchanged("17 both", start, x -> x.standard(0, -1, 10001), OUTSIDE);
        due("17 the sixteenth", x -> {
            batches(x, 1);
            blanks(x, 0, 15);
        }, x -> x.standard(0, 1, 1), 15);
    }

    private void standardBehindAResult() {
        for (int p = 0; p <= 3; p++) {
            int place = p;
            Start start = x -> {
                fourSorts(x);
                x.result(0, place, 0);
            };
            unchanged("17 PLACE " + p + " has a RESULT", start, x -> x.standard(0, 1, 1), STATE);
            due("17 a PLACE of another BATCH has one", start, x -> x.standard(1, 1, 1), 0);
        }
    }

    private static void sixteenBlanks(CoreShed x) {
        batches(x, 2);
        blanks(x, 0, 16);
    }

    private static void sixteenBlanksAndAResult(CoreShed x) {
        sixteenBlanks(x);
        x.result(0, 15, -1);
    }

    private void standardRefusalsInOrder() {
        unchanged("17 the seventeenth", PlacesEdgeTest::sixteenBlanks, x -> x.standard(0, 1, 1), FULL);
        unchanged("17 UNKNOWN ahead of due", PlacesEdgeTest::sixteenBlanks, x -> x.standard(2, -1, 1), UNKNOWN);
        unchanged("17 UNKNOWN ahead of off", PlacesEdgeTest::sixteenBlanks, x -> x.standard(-1, 1, 10001), UNKNOWN);
        unchanged("17 due ahead of FULL", PlacesEdgeTest::sixteenBlanks, x -> x.standard(0, 100001, 1), OUTSIDE);
        unchanged("17 off ahead of FULL", PlacesEdgeTest::sixteenBlanks, x -> x.standard(0, 1, -1), OUTSIDE);
        unchanged("17 due ahead of a RESULT", PlacesEdgeTest::sixteenBlanksAndAResult, x -> x.standard(0, -1, 1), OUTSIDE);
        unchanged("17 off ahead of a RESULT", PlacesEdgeTest::sixteenBlanksAndAResult, x -> x.standard(0, 1, 10001),
            OUTSIDE);
        unchanged("17 a RESULT ahead of FULL", PlacesEdgeTest::sixteenBlanksAndAResult, x -> x.standard(0, 1, 1), STATE);
    }

    // ---- 18

    private void blankNamesABatch() {
        never("18 no BATCHES", Edge::nothing, (x, v) -> x.blank(v), UNKNOWN);
        range("18 b of six", x -> batches(x, 6), (x, v) -> x.blank(v), 0, 0, 5, 0, UNKNOWN);
        due("18 the sixteenth", x -> {
            batches(x, 1);
            blanks(x, 0, 15);
        }, x -> x.blank(0), 15);
    }

    private void blankRefusalsInOrder() {
        unchanged("18 the seventeenth", PlacesEdgeTest::sixteenBlanks, x -> x.blank(0), FULL);
        unchanged("18 the seventeenth once more", x -> {
            sixteenBlanks(x);
            x.blank(0);
        }, x -> x.blank(0), FULL);
        due("18 another BATCH is not full", PlacesEdgeTest::sixteenBlanks, x -> x.blank(1), 0);
        for (int p = 0; p <= 3; p++) {
            int place = p;
            unchanged("18 PLACE " + p + " has a RESULT", x -> {
                fourSorts(x);
                x.result(0, place, 0);
            }, x -> x.blank(0), STATE);
        }
        unchanged("18 a RESULT ahead of FULL", PlacesEdgeTest::sixteenBlanksAndAResult, x -> x.blank(0), STATE);
        unchanged("18 UNKNOWN ahead of all", PlacesEdgeTest::sixteenBlanksAndAResult, x -> x.blank(2), UNKNOWN);
    }

    // ---- 19: "UNKNOWN: b, place; OUTSIDE: no SAMPLE is there"

    private void twiceNamesABatchAndAPlace() {
        never("19 no BATCHES", Edge::nothing, (x, v) -> x.twice(v, 0), UNKNOWN);
        never("19 no PLACES", x -> batches(x, 1), (x, v) -> x.twice(0, v), UNKNOWN);
        range("19 place of one", x -> {
            samples(x, 1);
            batches(x, 1);
            x.put(0, 0);
        }, (x, v) -> x.twice(0, v), 0, 1, 0, 1, UNKNOWN);
        Start start = x -> {
            samples(x, 3);
            batches(x, 2);
            x.put(0, 0);
            x.put(1, 1);
            x.put(1, 2);
        };
        range("19 b", start, (x, v) -> x.twice(v, 0), 0, 1, 1, 2, UNKNOWN);
        range("19 place of two", start, (x, v) -> x.twice(1, v), 0, 2, 1, 2, UNKNOWN);
        unchanged("19 a PLACE of another BATCH", start, x -> x.twice(0, 1), UNKNOWN);
        unchanged("19 place behind the sixteenth", PlacesEdgeTest::sixteen, x -> x.twice(0, 16), UNKNOWN);
    }

    private void twiceOfOtherSorts() {
        due("19 of a SAMPLE", PlacesEdgeTest::fourSorts, x -> x.twice(0, 0), 4);
        unchanged("19 of a STANDARD", PlacesEdgeTest::fourSorts, x -> x.twice(0, 1), OUTSIDE);
        unchanged("19 of a BLANK", PlacesEdgeTest::fourSorts, x -> x.twice(0, 2), OUTSIDE);
        unchanged("19 of a DOUBLE", PlacesEdgeTest::fourSorts, x -> x.twice(0, 3), OUTSIDE);
    }

    // ---- 19: "STATE: it has no QUARTER, or a PLACE has a RESULT"

    private void twiceNeedsAQuarter() {
        Start start = x -> {
            samples(x, 2);
            batches(x, 1);
            x.put(0, 0);
            x.put(0, 1);
            x.twice(0, 0);
            x.twice(0, 0);
        };
        due("19 the last QUARTER", start, x -> x.twice(0, 0), 4);
        unchanged("19 no QUARTER", x -> {
            start.on(x);
            x.twice(0, 0);
        }, x -> x.twice(0, 0), STATE);
        unchanged("19 no QUARTER, by BATCHES", PlacesEdgeTest::noQuarter, x -> x.twice(3, 0), STATE);
        due("19 another SAMPLE has some", x -> {
            start.on(x);
            x.twice(0, 0);
        }, x -> x.twice(0, 1), 5);
    }

    private void twiceBehindAResult() {
        for (int p = 0; p <= 3; p++) {
            int place = p;
            unchanged("19 PLACE " + p + " has a RESULT", x -> {
                fourSorts(x);
                x.result(0, place, 0);
            }, x -> x.twice(0, 0), STATE);
        }
        due("19 a PLACE of another BATCH has one", x -> {
            fourSorts(x);
            x.blank(1);
            x.result(1, 0, 0);
        }, x -> x.twice(0, 0), 4);
    }

    private void twiceRefusalsInOrder() {
        due("19 the sixteenth", x -> {
            samples(x, 1);
            batches(x, 1);
            x.put(0, 0);
            blanks(x, 0, 14);
        }, x -> x.twice(0, 0), 15);
        Start full = x -> {
            fourSorts(x);
            x.put(0, 1);
            blanks(x, 0, 11);
        };
        Start spent = x -> {
            full.on(x);
            x.put(1, 0);
            x.batch();
            x.put(2, 0);
        };
        Start told = x -> {
            full.on(x);
            x.result(0, 15, 0);
        };
        unchanged("19 the seventeenth", full, x -> x.twice(0, 0), FULL);
        unchanged("19 place ahead of FULL", full, x -> x.twice(0, 16), UNKNOWN);
        unchanged("19 b ahead of FULL", full, x -> x.twice(2, 0), UNKNOWN);
        unchanged("19 a STANDARD ahead of FULL", full, x -> x.twice(0, 1), OUTSIDE);
        unchanged("19 a BLANK ahead of a RESULT", told, x -> x.twice(0, 2), OUTSIDE);
        unchanged("19 a DOUBLE ahead of no QUARTER", spent, x -> x.twice(0, 3), OUTSIDE);
        unchanged("19 place ahead of a RESULT", told, x -> x.twice(0, -1), UNKNOWN);
        unchanged("19 no QUARTER ahead of FULL", spent, x -> x.twice(0, 0), STATE);
        unchanged("19 a RESULT ahead of FULL", told, x -> x.twice(0, 0), STATE);
    }

    // ---- 20: "DIRT ... (0 to 1000, 5 at first)", "SPREAD thousandths (0 to 1000, 100 at first)"

    private void laws() {
        range("20 which", Edge::nothing, (x, v) -> x.law(v, 7), 0, 5, 1, 100, UNKNOWN);
        range("20 DIRT", Edge::nothing, (x, v) -> x.law(0, v), 0, 5, 1000, 5, OUTSIDE);
        range("20 SPREAD", Edge::nothing, (x, v) -> x.law(1, v), 0, 100, 1000, 100, OUTSIDE);
        unchanged("20 which above ahead of OUTSIDE", Edge::nothing, x -> x.law(2, 1001), UNKNOWN);
        unchanged("20 which below ahead of OUTSIDE", Edge::nothing, x -> x.law(-1, -1), UNKNOWN);
        for (int which = 0; which <= 1; which++) {
            int law = which;
            due("20 what it was: the least", x -> x.law(law, 0), x -> x.law(law, 9), 0);
            due("20 what it was: the greatest", x -> x.law(law, 1000), x -> x.law(law, 9), 1000);
            due("20 the other is apart", x -> x.law(1 - law, 1000), x -> x.law(law, 9), law == 0 ? 5 : 100);
            due("20 a refused one is not what it was", x -> {
                x.law(law, 8);
                x.law(law, 1001);
                x.law(law, -1);
            }, x -> x.law(law, 9), 8);
        }
    }

    // ---- 21: "UNKNOWN: b, place; OUTSIDE: it is not -1000 to 100000."

    private void resultNamesABatchAndAPlace() {
        never("21 no BATCHES", Edge::nothing, (x, v) -> x.result(v, 0, 1), UNKNOWN);
        never("21 no PLACES", x -> batches(x, 1), (x, v) -> x.result(0, v, 1), UNKNOWN);
        Start start = x -> {
            batches(x, 6);
            for (int b = 0; b < 6; b++) {
                blanks(x, b, 2);
            }
        };
        range("21 b of six", start, (x, v) -> x.result(v, 0, 1), 0, 1, 5, 1, UNKNOWN);
        range("21 place of two", start, (x, v) -> x.result(5, v, 1), 0, 1, 1, 1, UNKNOWN);
        range("21 place of sixteen", PlacesEdgeTest::sixteenBlanks, (x, v) -> x.result(0, v, 1), 0, 1, 15, 1, UNKNOWN);
        unchanged("21 place ahead of OUTSIDE", start, x -> x.result(0, 2, 100001), UNKNOWN);
        unchanged("21 b ahead of OUTSIDE", start, x -> x.result(6, 0, -1001), UNKNOWN);
    }

    private void numberOfAResult() {
        for (int p = 0; p <= 3; p++) {
            int place = p;
            range("21 number at PLACE " + p, PlacesEdgeTest::fourSorts, (x, v) -> x.result(0, place, v), -1000, 1,
                100000, 1, OUTSIDE);
            for (int v : new int[] {-1000, -1, 0, 1, 100000}) {
                due("21 " + v + " stands", x -> {
                    fourSorts(x);
                    x.result(0, place, v);
                }, x -> x.about(0, place, 4), v);
            }
        }
        range("21 number, where there is one", x -> {
            fourSorts(x);
            x.result(0, 0, 77);
        }, (x, v) -> x.result(0, 0, v), -1000, 1, 100000, 1, OUTSIDE);
    }

    // ---- 21: "A later one takes the place of an earlier one."

    private void laterResults() {
        becomes("21 a later one", x -> {
            fourSorts(x);
            x.result(0, 1, 77);
        }, x -> x.result(0, 1, -1), 1, x -> {
            fourSorts(x);
            x.result(0, 1, -1);
        });
        becomes("21 a later 0", x -> {
            fourSorts(x);
            x.result(0, 1, 77);
        }, x -> x.result(0, 1, 0), 1, x -> {
            fourSorts(x);
            x.result(0, 1, 0);
        });
        due("21 a later one, where all have one", x -> {
            fourSorts(x);
            results(x, 0, 10, 500, 0, 10);
        }, x -> x.result(0, 3, 100000), 1);
    }

    // ---- 25: "UNKNOWN: b, place, the next one; STATE: one of both has none."

    private void exchangeNamesTwoPlaces() {
        never("25 no BATCHES", Edge::nothing, (x, v) -> x.exchange(v, 0), UNKNOWN);
        never("25 no PLACES", x -> batches(x, 1), (x, v) -> x.exchange(0, v), UNKNOWN);
        never("25 no next one", x -> {
            batches(x, 1);
            blanks(x, 0, 1);
            x.result(0, 0, 1);
        }, (x, v) -> x.exchange(0, v), UNKNOWN);
        Start start = x -> {
            batches(x, 6);
            for (int b = 0; b < 6; b++) {
                blanks(x, b, 3);
                results(x, b, 1, 2, 3);
            }
        };
        range("25 b of six", start, (x, v) -> x.exchange(v, 0), 0, 1, 5, 1, UNKNOWN);
        range("25 place of three", start, (x, v) -> x.exchange(0, v), 0, 1, 1, 1, UNKNOWN);
        unchanged("25 the last ahead of STATE", x -> {
            batches(x, 1);
            blanks(x, 0, 2);
        }, x -> x.exchange(0, 1), UNKNOWN);
    }

    private void exchangeNeedsBothResults() {
        unchanged("25 none has one", PlacesEdgeTest::fourSorts, x -> x.exchange(0, 0), STATE);
        unchanged("25 the first has none", x -> {
            fourSorts(x);
            x.result(0, 1, 5);
        }, x -> x.exchange(0, 0), STATE);
        unchanged("25 the next one has none", x -> {
            fourSorts(x);
            x.result(0, 0, 5);
        }, x -> x.exchange(0, 0), STATE);
        becomes("25 others need none", x -> {
            fourSorts(x);
            results(x, 0, 5, -6);
        }, x -> x.exchange(0, 0), 1, x -> {
            fourSorts(x);
            results(x, 0, -6, 5);
        });
        becomes("25 there and back", x -> {
            fourSorts(x);
            results(x, 0, 5, -6);
            x.exchange(0, 0);
        }, x -> x.exchange(0, 0), 1, x -> {
            fourSorts(x);
            results(x, 0, 5, -6);
        });
        becomes("25 the same number twice", x -> {
            fourSorts(x);
            results(x, 0, 5, 5);
        }, x -> x.exchange(0, 0), 1, x -> {
            fourSorts(x);
            results(x, 0, 5, 5);
        });
        becomes("25 0 is a RESULT", x -> {
            fourSorts(x);
            results(x, 0, 0, 100000);
        }, x -> x.exchange(0, 0), 1, x -> {
            fourSorts(x);
            results(x, 0, 100000, 0);
        });
    }

    private void exchangeOfTheLastTwo() {
        Start start = x -> {
            sixteenBlanks(x);
            for (int p = 0; p < 16; p++) {
                x.result(0, p, p);
            }
        };
        range("25 place of sixteen", start, (x, v) -> x.exchange(0, v), 0, 1, 14, 1, UNKNOWN);
        due("25 the last two", x -> {
            start.on(x);
            x.exchange(0, 14);
        }, x -> x.about(0, 15, 4), 14);
        due("25 those ahead stay", x -> {
            start.on(x);
            x.exchange(0, 14);
        }, x -> x.about(0, 13, 4), 13);
    }

    // ---- 26: "UNKNOWN: b, place; OUTSIDE."

    private void aboutNamesABatchAndAPlace() {
        never("26 no BATCHES", Edge::nothing, (x, v) -> x.about(v, 0, 0), UNKNOWN);
        never("26 no PLACES", x -> batches(x, 1), (x, v) -> x.about(0, v, 0), UNKNOWN);
        range("26 b of six", x -> {
            batches(x, 6);
            for (int b = 0; b < 6; b++) {
                x.standard(b, b, 0);
            }
        }, (x, v) -> x.about(v, 0, 1), 0, 0, 5, 5, UNKNOWN);
        range("26 place of four", PlacesEdgeTest::fourSorts, (x, v) -> x.about(0, v, 0), 0, 0, 3, 3, UNKNOWN);
        range("26 place of sixteen", PlacesEdgeTest::sixteen, (x, v) -> x.about(0, v, 1), 0, 0, 15, 15, UNKNOWN);
        unchanged("26 place ahead of what", PlacesEdgeTest::fourSorts, x -> x.about(0, 4, 5), UNKNOWN);
        unchanged("26 b ahead of what", PlacesEdgeTest::fourSorts, x -> x.about(2, 0, -1), UNKNOWN);
    }

    private void aboutEachSort() {
        int[][] want = {{0, 0, 0, 0, 0}, {1, 500, 20, 0, 0}, {2, 0, 0, 0, 0}, {3, 0, 0, 0, 0}};
        for (int p = 0; p < want.length; p++) {
            int place = p;
            range("26 what of PLACE " + p, PlacesEdgeTest::fourSorts, (x, v) -> x.about(0, place, v), 0, p, 4, 0, OUTSIDE);
            for (int what = 0; what <= 4; what++) {
                int which = what;
                unchanged("26 about " + p + ", " + what, PlacesEdgeTest::fourSorts, x -> x.about(0, place, which),
                    want[p][what]);
            }
            due("26 with a RESULT of 0, PLACE " + p, x -> {
                fourSorts(x);
                x.result(0, place, 0);
            }, x -> x.about(0, place, 3), 1);
            due("26 behind a refused RESULT, PLACE " + p, x -> {
                fourSorts(x);
                x.result(0, place, -1001);
            }, x -> x.about(0, place, 3), 0);
        }
    }

    private void aboutTheEdgesOfNumbers() {
        due("26 the last SAMPLE", x -> {
            samples(x, 30);
            batches(x, 1);
            x.put(0, 29);
        }, x -> x.about(0, 0, 1), 29);
        due("26 the greatest due", x -> {
            batches(x, 1);
            x.standard(0, 100000, 10000);
        }, x -> x.about(0, 0, 1), 100000);
        due("26 the greatest off", x -> {
            batches(x, 1);
            x.standard(0, 100000, 10000);
        }, x -> x.about(0, 0, 2), 10000);
        due("26 the PLACE that is doubled, not its SAMPLE", x -> {
            samples(x, 3);
            batches(x, 1);
            blanks(x, 0, 14);
            x.put(0, 2);
            x.twice(0, 14);
        }, x -> x.about(0, 15, 1), 14);
    }
}
