/** Boundary cases of promises 22 to 24: when A BATCH IS SOUND, its first fault, and the SWAP that MENDS it. */
public final class SoundEdgeTest extends Edge {
    private SoundEdgeTest() {
        super("SoundEdgeTest");
    }

    public static void main(String[] args) {
        SoundEdgeTest test = new SoundEdgeTest();
        test.callsNameABatch();
        test.batchWithoutPlaces();
        test.placesWithoutResults();
        test.samplesAloneAreSound();
        test.standards();
        test.standardsBelowANumber();
        test.blanks();
        test.blanksBelowANumber();
        test.doubles();
        test.doublesAreNotRounded();
        test.doublesBelowANumber();
        test.doublesFarFromTheirPlace();
        test.lawsOfNow();
        test.firstOfSeveralFaults();
        test.faultOfTheLastPlace();
        test.swapOfOnePlace();
        test.swapOfTwoPlaces();
        test.swapOfASoundBatch();
        test.leastSwap();
        test.swapNextToOneAnother();
        test.swapOfADoubleAndItsPlace();
        test.lastSwap();
        test.swapMendsAll();
        test.finish();
    }

    private void tell(String what, Start start, int sound, int fault, int swap) {
        unchanged("22 " + what, start, x -> x.sound(0), sound);
        unchanged("23 " + what, start, x -> x.fault(0), fault);
        unchanged("24 " + what, start, x -> x.swap(0), swap);
    }

    private void isSound(String what, Start start) {
        tell(what, start, 1, NONE, NONE);
        due("31 " + what, start, x -> x.count(4), 1);
    }

    /** With one fault, that no SWAP MENDS. */
    private void hasFault(String what, int fault, Start start) {
        tell(what, start, 0, fault, NONE);
        due("31 " + what, start, x -> x.count(4), 0);
    }

    // ---- "UNKNOWN"

    private void callsNameABatch() {
        Start six = x -> {
            batches(x, 6);
            for (int b = 0; b < 6; b++) {
                x.blank(b);
                x.result(b, 0, b + 1);
            }
        };
        range("22 b of six", six, (x, v) -> x.sound(v), 0, 1, 5, 0, UNKNOWN);
        range("23 b of six", six, (x, v) -> x.fault(v), 0, NONE, 5, 0, UNKNOWN);
        range("24 b of six", six, (x, v) -> x.swap(v), 0, NONE, 5, NONE, UNKNOWN);
        Start one = x -> batches(x, 1);
        range("22 b of one", one, (x, v) -> x.sound(v), 0, STATE, 0, STATE, UNKNOWN);
        range("23 b of one", one, (x, v) -> x.fault(v), 0, STATE, 0, STATE, UNKNOWN);
        range("24 b of one", one, (x, v) -> x.swap(v), 0, STATE, 0, STATE, UNKNOWN);
    }

    // ---- "STATE: a PLACE has no RESULT, or there is none."

    private void batchWithoutPlaces() {
        tell("no PLACE", x -> batches(x, 1), STATE, STATE, STATE);
        tell("no PLACE, another BATCH has one", x -> {
            batches(x, 2);
            x.blank(1);
            x.result(1, 0, 0);
        }, STATE, STATE, STATE);
        due("31 no PLACE is not SOUND", x -> batches(x, 6), x -> x.count(4), 0);
    }

    private void placesWithoutResults() {
        tell("one PLACE without", x -> {
            batches(x, 1);
            x.blank(0);
        }, STATE, STATE, STATE);
        for (int missing = 0; missing < 16; missing++) {
            int without = missing;
            Start start = x -> {
                batches(x, 1);
                blanks(x, 0, 16);
                for (int p = 0; p < 16; p++) {
                    if (p != without) {
                        x.result(0, p, p == 8 ? 900 : 0);
                    }
                }
            };
            tell("PLACE " + missing + " without", start, STATE, STATE, STATE);
            due("31 PLACE " + missing + " without", start, x -> x.count(4), 0);
        }
        tell("a refused RESULT is none", x -> {
            batches(x, 1);
            x.blank(0);
            x.result(0, 0, 100001);
        }, STATE, STATE, STATE);
    }

    private void samplesAloneAreSound() {
        for (int v : new int[] {-1000, -1, 0, 1, 100000}) {
            isSound("a SAMPLE of " + v, x -> {
                samples(x, 1);
                batches(x, 1);
                x.put(0, 0);
                x.result(0, 0, v);
            });
        }
    }

    // ---- "each STANDARD's lower END is within what is due, by so much, and its upper END"

    private void standard(int due, int off, int result, boolean fits) {
        String what = "STANDARD " + due + " off " + off + ", RESULT " + result;
        Start start = x -> {
            batches(x, 1);
            x.standard(0, due, off);
            x.result(0, 0, result);
        };
        if (fits) {
            isSound(what, start);
        } else {
            hasFault(what, 0, start);
        }
    }

    private void standards() {
        standard(500, 20, 479, false);
        standard(500, 20, 480, true);
        standard(500, 20, 520, true);
        standard(500, 20, 521, false);
        standard(500, 0, 499, false);
        standard(500, 0, 500, true);
        standard(500, 0, 501, false);
        standard(0, 0, 0, true);
        standard(0, 0, 1, false);
        standard(0, 10000, 10000, true);
        standard(0, 10000, 10001, false);
        standard(10000, 10000, 0, true);
        standard(10001, 10000, 0, false);
        standard(100000, 0, 100000, true);
        standard(100000, 0, 99999, false);
        standard(100000, 10000, 90000, true);
        standard(100000, 10000, 89999, false);
        standard(90000, 10000, 100000, true);
        standard(89999, 10000, 100000, false);
    }

    private void standardsBelowANumber() {
        standard(0, 0, -1, true);
        standard(0, 0, -2, false);
        standard(0, 1, -2, true);
        standard(1, 1, -3, true);
        standard(1, 1, -4, false);
        standard(2, 1, -3, false);
        standard(0, 999, -1000, true);
        standard(0, 998, -1000, false);
        standard(499, 500, -1000, true);
        standard(499, 499, -1000, false);
        standard(500, 500, -1000, true);
        standard(500, 499, -1000, false);
        standard(999, 998, -1000, false);
        standard(999, 999, -1000, true);
    }

    // ---- "each BLANK's upper END is DIRT at most"

    private void blank(int dirt, int result, boolean fits) {
        String what = "BLANK, DIRT " + dirt + ", RESULT " + result;
        Start start = x -> {
            x.law(0, dirt);
            batches(x, 1);
            x.blank(0);
            x.result(0, 0, result);
        };
        if (fits) {
            isSound(what, start);
        } else {
            hasFault(what, 0, start);
        }
    }

    private void blanks() {
        blank(0, 0, true);
        blank(0, 1, false);
        blank(5, 0, true);
        blank(5, 5, true);
        blank(5, 6, false);
        blank(999, 1000, false);
        blank(1000, 1000, true);
        blank(1000, 1001, false);
        blank(1000, 100000, false);
        isSound("BLANK, DIRT at first, 5", x -> {
            batches(x, 1);
            x.blank(0);
            x.result(0, 0, 5);
        });
        hasFault("BLANK, DIRT at first, 6", 0, x -> {
            batches(x, 1);
            x.blank(0);
            x.result(0, 0, 6);
        });
    }

    private void blanksBelowANumber() {
        blank(0, -1, true);
        blank(0, -2, false);
        blank(5, -6, true);
        blank(5, -7, false);
        blank(998, -1000, false);
        blank(999, -1000, true);
        blank(1000, -1000, true);
    }

    // ---- "of each DOUBLE and its PLACE the upper ENDS differ by SPREAD thousandths ... of the greater one at most"

    private void pair(int spread, int one, int other, boolean fits) {
        sample(spread, one, other, fits);
        sample(spread, other, one, fits);
    }

    private void sample(int spread, int result, int doubled, boolean fits) {
        String what = "DOUBLE, SPREAD " + spread + ", RESULTS " + result + " and " + doubled;
        Start start = x -> {
            x.law(1, spread);
            samples(x, 1);
            batches(x, 1);
            x.put(0, 0);
            x.twice(0, 0);
            results(x, 0, result, doubled);
        };
        if (fits) {
            isSound(what, start);
        } else {
            hasFault(what, 1, start);
        }
    }

    private void doubles() {
        pair(100, 1000, 900, true);
        pair(100, 1000, 899, false);
        pair(100, 1000, 1000, true);
        pair(0, 7, 7, true);
        pair(0, 7, 8, false);
        pair(0, 0, 0, true);
        pair(0, 100000, 100000, true);
        pair(0, 100000, 99999, false);
        pair(1000, 0, 100000, true);
        pair(1000, 0, 1, true);
        pair(999, 0, 1, false);
        pair(999, 0, 0, true);
        pair(999, 100000, 100, true);
        pair(999, 100000, 99, false);
        pair(1, 100000, 99900, true);
        pair(1, 100000, 99899, false);
    }

    private void doublesAreNotRounded() {
        pair(100, 10, 9, true);
        pair(100, 9, 8, false);
        pair(100, 11, 10, true);
        pair(100, 19, 18, true);
        pair(100, 19, 17, false);
        pair(100, 20, 18, true);
        pair(1, 1000, 999, true);
        pair(1, 999, 998, false);
        pair(1, 1999, 1997, false);
        pair(1, 2000, 1998, true);
        pair(333, 3, 2, false);
        pair(334, 3, 2, true);
        pair(500, 2, 1, true);
        pair(499, 2, 1, false);
    }

    private void doublesBelowANumber() {
        pair(0, -1, 0, true);
        pair(0, -1, -1, true);
        pair(0, -1, 1, false);
        pair(0, -8, 7, true);
        pair(0, -8, 8, false);
        pair(0, -8, -8, true);
        pair(100, -11, 9, true);
        pair(100, -11, 8, false);
        pair(100, -11, -10, true);
        pair(100, -11, -9, false);
        pair(0, -1000, 999, true);
        pair(0, -1000, 1000, false);
        pair(1, -1000, 1000, true);
    }

    private void doublesFarFromTheirPlace() {
        for (int between = 0; between <= 14; between++) {
            int many = between;
            Start start = x -> {
                samples(x, 1);
                batches(x, 1);
                x.put(0, 0);
                blanks(x, 0, many);
                x.twice(0, 0);
                for (int p = 0; p <= many; p++) {
                    x.result(0, p, p == 0 ? 1000 : 0);
                }
            };
            due("22 " + between + " in between, as far as may be", x -> {
                start.on(x);
                x.result(0, many + 1, 900);
            }, x -> x.sound(0), 1);
            due("23 " + between + " in between, too far", x -> {
                start.on(x);
                x.result(0, many + 1, 899);
            }, x -> x.fault(0), many + 1);
        }
        hasFault("the second of two DOUBLES", 2, x -> {
            samples(x, 1);
            batches(x, 1);
            x.put(0, 0);
            x.twice(0, 0);
            x.twice(0, 0);
            results(x, 0, 1000, 1000, 1200);
        });
        tell("the first of two DOUBLES lies in the middle", x -> {
            samples(x, 1);
            batches(x, 1);
            x.put(0, 0);
            x.twice(0, 0);
            x.twice(0, 0);
            results(x, 0, 1000, 1100, 1200);
        }, 0, 2, 0);
        isSound("two DOUBLES, each held against the PLACE, not one another", x -> {
            samples(x, 1);
            batches(x, 1);
            x.put(0, 0);
            x.twice(0, 0);
            x.twice(0, 0);
            results(x, 0, 1000, 900, 1111);
        });
    }

    private void lawsOfNow() {
        Start start = x -> {
            samples(x, 1);
            batches(x, 1);
            x.put(0, 0);
            x.twice(0, 0);
            x.blank(0);
            results(x, 0, 1000, 800, 8);
        };
        hasFault("by both laws", 1, start);
        hasFault("by DIRT alone", 2, x -> {
            start.on(x);
            x.law(1, 200);
        });
        hasFault("by SPREAD alone", 1, x -> {
            start.on(x);
            x.law(0, 8);
            x.law(1, 199);
        });
        isSound("by neither", x -> {
            start.on(x);
            x.law(0, 8);
            x.law(1, 200);
        });
        hasFault("DIRT one less again", 2, x -> {
            start.on(x);
            x.law(0, 8);
            x.law(1, 200);
            x.law(0, 7);
        });
        hasFault("refused laws do not count", 1, x -> {
            start.on(x);
            x.law(0, 1001);
            x.law(1, 1001);
        });
    }

    // ---- 23: "The first PLACE that is not as it should be (of a DOUBLE the DOUBLE's); NONE."

    private void firstOfSeveralFaults() {
        for (int first = 0; first < 3; first++) {
            int from = first;
            hasFault("all from BLANK " + first + " on", first, x -> {
                batches(x, 1);
                blanks(x, 0, 3);
                results(x, 0, from > 0 ? 0 : 6, from > 1 ? 0 : 7, 8);
            });
        }
        hasFault("a DOUBLE ahead of a STANDARD", 1, x -> {
            samples(x, 1);
            batches(x, 1);
            x.put(0, 0);
            x.twice(0, 0);
            x.standard(0, 50, 1);
            results(x, 0, 100, 10, 60);
        });
        hasFault("a STANDARD ahead of a DOUBLE", 0, x -> {
            samples(x, 1);
            batches(x, 1);
            x.standard(0, 50, 1);
            x.put(0, 0);
            x.twice(0, 0);
            results(x, 0, 60, 100, 10);
        });
    }

    private void faultOfTheLastPlace() {
        hasFault("the last of sixteen, and no SWAP", 15, x -> {
            batches(x, 1);
            blanks(x, 0, 16);
            for (int p = 0; p < 16; p++) {
                x.result(0, p, p == 15 ? 6 : 5);
            }
        });
        isSound("sixteen BLANKS", x -> {
            batches(x, 1);
            blanks(x, 0, 16);
            for (int p = 0; p < 16; p++) {
                x.result(0, p, 5);
            }
        });
    }

    // ---- 24: "two PLACES next to one another (the first told)", "NONE: none does, or IT IS SOUND"

    private void swapOfOnePlace() {
        tell("one PLACE with a fault", x -> {
            batches(x, 1);
            x.blank(0);
            x.result(0, 0, 6);
        }, 0, 0, NONE);
    }

    private void swapOfTwoPlaces() {
        Start start = x -> {
            samples(x, 1);
            batches(x, 1);
            x.put(0, 0);
            x.blank(0);
        };
        tell("two PLACES, mended", x -> {
            start.on(x);
            results(x, 0, 5, 6);
        }, 0, 1, 0);
        tell("two PLACES, not mended", x -> {
            start.on(x);
            results(x, 0, 6, 6);
        }, 0, 1, NONE);
        tell("two PLACES, SOUND", x -> {
            start.on(x);
            results(x, 0, 6, 5);
        }, 1, NONE, NONE);
    }

    private void swapOfASoundBatch() {
        tell("SOUND, and so with any two exchanged", x -> {
            batches(x, 1);
            blanks(x, 0, 3);
            results(x, 0, 1, 2, 3);
        }, 1, NONE, NONE);
    }

    private void leastSwap() {
        tell("both SWAPS of the BLANK mend", x -> {
            samples(x, 2);
            batches(x, 1);
            x.put(0, 0);
            x.blank(0);
            x.put(0, 1);
            results(x, 0, 2, 300, 4);
        }, 0, 1, 0);
        tell("the later SWAP alone mends", x -> {
            samples(x, 2);
            batches(x, 1);
            x.put(0, 0);
            x.blank(0);
            x.put(0, 1);
            results(x, 0, 6, 300, 5);
        }, 0, 1, 1);
        tell("the earlier SWAP alone mends", x -> {
            samples(x, 2);
            batches(x, 1);
            x.put(0, 0);
            x.blank(0);
            x.put(0, 1);
            results(x, 0, 5, 300, 6);
        }, 0, 1, 0);
    }

    private void swapNextToOneAnother() {
        tell("one PLACE in between", x -> {
            samples(x, 2);
            batches(x, 1);
            x.blank(0);
            x.put(0, 0);
            x.put(0, 1);
            results(x, 0, 50, 60, 1);
        }, 0, 0, NONE);
        tell("the last with the first is none", x -> {
            samples(x, 2);
            batches(x, 1);
            x.put(0, 0);
            x.put(0, 1);
            x.blank(0);
            results(x, 0, 1, 60, 50);
        }, 0, 2, NONE);
    }

    private void swapOfADoubleAndItsPlace() {
        tell("a DOUBLE and its PLACE differ as before", x -> {
            samples(x, 1);
            batches(x, 1);
            x.put(0, 0);
            x.twice(0, 0);
            results(x, 0, 100, 50);
        }, 0, 1, NONE);
        tell("the PLACE and the BLANK ahead of it", x -> {
            samples(x, 1);
            batches(x, 1);
            x.blank(0);
            x.put(0, 0);
            x.twice(0, 1);
            results(x, 0, 100, 5, 90);
        }, 0, 0, 0);
        tell("the DOUBLE and the BLANK behind it", x -> {
            samples(x, 1);
            batches(x, 1);
            x.put(0, 0);
            x.twice(0, 0);
            x.blank(0);
            results(x, 0, 100, 5, 90);
        }, 0, 1, 1);
    }

    private void lastSwap() {
        tell("the last two of sixteen", x -> {
            batches(x, 1);
            blanks(x, 0, 15);
            x.standard(0, 500, 0);
            for (int p = 0; p < 16; p++) {
                x.result(0, p, p == 14 ? 500 : 0);
            }
        }, 0, 14, 14);
        tell("the first two of sixteen", x -> {
            batches(x, 1);
            x.standard(0, 500, 0);
            blanks(x, 0, 15);
            for (int p = 0; p < 16; p++) {
                x.result(0, p, p == 1 ? 500 : 0);
            }
        }, 0, 0, 0);
    }

    private void swapMendsAll() {
        tell("a SWAP that mends one fault of two", x -> {
            samples(x, 1);
            batches(x, 1);
            x.put(0, 0);
            x.blank(0);
            x.blank(0);
            results(x, 0, 5, 6, 6);
        }, 0, 1, NONE);
        due("25 told, exchanged, SOUND", x -> {
            batches(x, 1);
            x.standard(0, 500, 0);
            x.blank(0);
            results(x, 0, -6, 500);
            x.exchange(0, x.swap(0));
        }, x -> x.sound(0), 1);
    }
}
