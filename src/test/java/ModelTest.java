import java.util.Random;

/** Long mixed runs of calls, each answer (and the digest behind it) held against PlainShed's. */
public final class ModelTest {
    private static final Check CHECK = new Check("ModelTest");
    private static final int RUNS = 1500;
    /** Nothing is promised behind the 512th call; one step makes fewer calls than are spared here. */
    private static final int CALLS = 512 - 24;
    /** PlainShed tries every choice, so most runs stay below these. */
    private static final int MARKS = 9, LAYERS = 7;
    private static final int[] ODD = {
        Integer.MIN_VALUE, -100001, -1001, -1000, -2, -1, 16, 20, 30, 1001, 10001, 100000, 100001, Integer.MAX_VALUE
    };

    private final Random random;
    private final CoreShed shed = new CoreShed();
    private final PlainShed plain = new PlainShed();
    /** How often, of a hundred numbers, one is odd. */
    private final int oddness;
    /** How deep the runs go: small ones make marks, layers and samples meet. */
    private final int depth;
    private final int codes;
    private int calls;

    private ModelTest(int seed) {
        random = new Random(seed);
        oddness = random.nextInt(3) == 0 ? 15 : 1;
        depth = 5 + random.nextInt(random.nextInt(3) == 0 ? 200 : 20);
        codes = 2 + random.nextInt(4);
    }

    public static void main(String[] args) {
        for (int seed = 0; seed < RUNS && !CHECK.hasFailed(); seed++) {
            new ModelTest(seed).play(seed);
        }
        CHECK.finish();
    }

    private void play(int seed) {
        for (int step = 0; calls < CALLS && step < CALLS && !CHECK.hasFailed(); step++) {
            // The first calls drill: once there is a log or a sample, no run can follow.
            int which = step < 24 ? random.nextInt(4) : random.nextInt(40);
            if (which < 7) {
                holes(which);
            } else if (which < 14) {
                logs(which);
            } else if (which < 34) {
                batches(which);
            } else {
                grades(which);
            }
            same(shed.digest(), plain.digest(), "digest in run", seed, step);
        }
    }

    private int number(int bound) {
        if (random.nextInt(100) < oddness) {
            return ODD[random.nextInt(ODD.length)];
        }
        return random.nextInt(bound);
    }

    private int aHole() {
        return number(Math.max(1, plain.count(0)) + (random.nextInt(20) == 0 ? 1 : 0));
    }

    private int aSample() {
        return number(Math.max(1, plain.count(1)) + (random.nextInt(20) == 0 ? 1 : 0));
    }

    private int aBatch() {
        return number(Math.max(1, plain.count(2)) + (random.nextInt(20) == 0 ? 1 : 0));
    }

    private int aPlace(int b) {
        int many = 0;
        while (plain.about(b, many, 0) >= 0) {
            many++;
        }
        return number(many + (many == 0 || random.nextInt(20) == 0 ? 1 : 0));
    }

    private int aDepth(int h) {
        return number(Math.max(1, plain.end(h)) + 2);
    }

    private void same(long got, long want, String call, int... args) {
        calls++;
        StringBuilder text = new StringBuilder(call);
        if (got != want) {
            text.append(java.util.Arrays.toString(args));
        }
        CHECK.due(text.toString(), got, want);
    }

    private void holes(int which) {
        int h = aHole(), a = aDepth(h), b = aDepth(h);
        switch (which) {
            case 0 -> same(shed.hole(), plain.hole(), "hole");
            case 1, 2 -> {
                int drilled = number(depth), recovered = number(Math.max(1, drilled + 1));
                same(shed.run(h, drilled, recovered), plain.run(h, drilled, recovered), "run", h, drilled, recovered);
            }
            case 3 -> {
                if (plain.marksOf(h) < MARKS) {
                    same(shed.mark(h, a), plain.mark(h, a), "mark", h, a);
                }
            }
            case 4 -> same(shed.recovered(h, a, b), plain.recovered(h, a, b), "recovered", h, a, b);
            case 5 -> same(shed.wrong(h), plain.wrong(h), "wrong", h);
            default -> {
                int k = number(plain.marksOf(h) + 1);
                same(shed.isWrong(h, k), plain.isWrong(h, k), "isWrong", h, k);
                same(shed.end(h), plain.end(h), "end", h);
            }
        }
    }

    private void logs(int which) {
        int h = aHole(), log = number(2), code = number(codes), to = number(codes);
        switch (which) {
            case 7, 8, 9, 10 -> {
                int behind = 0;
                while (plain.rock(h, log, behind) >= 0) {
                    behind++;
                }
                int depth = behind + number(9);
                if (plain.layersOf(h, log) < LAYERS) {
                    same(shed.layer(h, log, depth, code), plain.layer(h, log, depth, code), "layer", h, log, depth, code);
                }
            }
            case 11 -> same(shed.code(code, to), plain.code(code, to), "code", code, to);
            case 12 -> {
                int x = aDepth(h);
                same(shed.rock(h, log, x), plain.rock(h, log, x), "rock", h, log, x);
            }
            default -> same(shed.agree(h), plain.agree(h), "agree", h);
        }
    }

    private void batches(int which) {
        int b = aBatch(), place = aPlace(b), s = aSample();
        switch (which) {
            case 14, 15, 16 -> {
                int h = aHole(), from = aDepth(h), to = random.nextBoolean() ? aDepth(h) : from + number(5);
                same(shed.sample(h, from, to), plain.sample(h, from, to), "sample", h, from, to);
            }
            case 17 -> same(shed.batch(), plain.batch(), "batch");
            case 18, 19, 20 -> same(shed.put(b, s), plain.put(b, s), "put", b, s);
            case 21 -> {
                int due = number(20), off = number(12);
                same(shed.standard(b, due, off), plain.standard(b, due, off), "standard", b, due, off);
            }
            case 22 -> same(shed.blank(b), plain.blank(b), "blank", b);
            case 23 -> same(shed.twice(b, place), plain.twice(b, place), "twice", b, place);
            case 24 -> {
                int law = number(2), v = number(random.nextBoolean() ? 12 : 1001);
                same(shed.law(law, v), plain.law(law, v), "law", law, v);
            }
            case 25, 26 -> fill(b);
            case 27 -> {
                int v = aResult();
                same(shed.result(b, place, v), plain.result(b, place, v), "result", b, place, v);
            }
            case 28 -> same(shed.sound(b), plain.sound(b), "sound", b);
            case 29 -> same(shed.fault(b), plain.fault(b), "fault", b);
            case 30, 31 -> same(shed.swap(b), plain.swap(b), "swap", b);
            case 32 -> same(shed.exchange(b, place), plain.exchange(b, place), "exchange", b, place);
            default -> {
                int what = number(5);
                same(shed.about(b, place, what), plain.about(b, place, what), "about", b, place, what);
                same(shed.left(s), plain.left(s), "left", s);
            }
        }
    }

    private int aResult() {
        return random.nextInt(4) == 0 ? -number(15) : number(20);
    }

    /** Gives every PLACE a RESULT that fits, and at times exchanges two, so that SOUND and SWAP have answers. */
    private void fill(int b) {
        if (random.nextInt(3) != 0) {
            return;
        }
        for (int p = 0; plain.about(b, p, 0) >= 0; p++) {
            int sort = plain.about(b, p, 0), about = plain.about(b, p, 1);
            int v = sort == 1 ? about : sort == 2 ? number(6) : sort == 3 ? plain.about(b, about, 4) : aResult();
            same(shed.result(b, p, v), plain.result(b, p, v), "result", b, p, v);
        }
        if (random.nextBoolean()) {
            int p = aPlace(b);
            same(shed.exchange(b, p), plain.exchange(b, p), "exchange", b, p);
            same(shed.swap(b), plain.swap(b), "swap", b);
        }
        same(shed.sound(b), plain.sound(b), "sound", b);
        same(shed.fault(b), plain.fault(b), "fault", b);
    }

    private void grades(int which) {
        int h = aHole(), g = aHole(), s = aSample(), side = number(2);
        switch (which) {
            case 34 -> same(shed.grade(s, side), plain.grade(s, side), "grade", s, side);
            case 35, 36 -> {
                int a = aDepth(h), b = aDepth(h), top = number(25), way = number(3);
                same(shed.composite(h, a, b, top, way), plain.composite(h, a, b, top, way), "composite", h, a, b, top, way);
            }
            case 37 -> same(shed.cost(h, g), plain.cost(h, g), "cost", h, g);
            case 38 -> {
                int k = number(plain.layersOf(h, 0) + 1);
                same(shed.matched(h, g, k), plain.matched(h, g, k), "matched", h, g, k);
            }
            default -> {
                int what = number(6);
                same(shed.count(what), plain.count(what), "count", what);
            }
        }
    }
}
