/** Each promise of the document by hand: ordinary inputs, the edges that it names, wrong inputs and their order. */
public final class PromiseTest {
    private static final int NONE = -1, UNKNOWN = -101, OUTSIDE = -102, STATE = -103, FULL = -104;
    private static final int LOWEST = Integer.MIN_VALUE, HIGHEST = Integer.MAX_VALUE;
    private static final Check CHECK = new Check("PromiseTest");

    public static void main(String[] args) {
        newObject();
        hole();
        run();
        end();
        recovered();
        mark();
        mend();
        mendAgainstEnd();
        layer();
        code();
        rock();
        agree();
        sample();
        left();
        batch();
        put();
        standard();
        blank();
        twice();
        law();
        result();
        soundStandards();
        soundBlanks();
        soundDoubles();
        soundStates();
        fault();
        swap();
        exchange();
        about();
        grade();
        composite();
        cost();
        matched();
        matchedByOrder();
        count();
        digest();
        refusalsChangeNothing();
        fullLogs();
        fullShed();
        CHECK.finish();
    }

    private static void due(String call, long got, long want) {
        CHECK.due(call, got, want);
    }

    // ---- sheds to begin with

    private static CoreShed withHoles(int... ends) {
        CoreShed x = new CoreShed();
        for (int h = 0; h < ends.length; h++) {
            x.hole();
            for (int left = ends[h]; left > 0; left -= Math.min(left, 1000)) {
                int units = Math.min(left, 1000);
                x.run(h, units, units);
            }
        }
        return x;
    }

    /** A hole of 300 with samples of ten units each, and a batch. */
    private static CoreShed withSamples(int many) {
        CoreShed x = withHoles(300);
        for (int s = 0; s < many; s++) {
            x.sample(0, s * 10, s * 10 + 10);
        }
        x.batch();
        return x;
    }

    private static void layers(CoreShed x, int h, int log, int... depthsAndCodes) {
        for (int i = 0; i + 1 < depthsAndCodes.length; i += 2) {
            x.layer(h, log, depthsAndCodes[i], depthsAndCodes[i + 1]);
        }
    }

    private static void marks(CoreShed x, int h, int... depths) {
        for (int d : depths) {
            x.mark(h, d);
        }
    }

    private static void results(CoreShed x, int b, int... numbers) {
        for (int p = 0; p < numbers.length; p++) {
            x.result(b, p, numbers[p]);
        }
    }

    // ---- 1 to 8

    private static void newObject() {
        CoreShed x = new CoreShed();
        for (int what = 0; what <= 4; what++) {
            due("1 new count(" + what + ")", x.count(what), 0);
        }
        due("1 end(0)", x.end(0), UNKNOWN);
        due("1 left(0)", x.left(0), UNKNOWN);
        due("1 sound(0)", x.sound(0), UNKNOWN);
        due("1 DIRT at first", x.law(0, 5), 5);
        due("1 SPREAD at first", x.law(1, 100), 100);
        for (int c = 0; c <= 9; c++) {
            due("1 TABLE at first", x.code(c, c), c);
        }
    }

    private static void hole() {
        CoreShed x = new CoreShed();
        for (int h = 0; h < 4; h++) {
            due("2 hole", x.hole(), h);
            due("2 end of a new one", x.end(h), 0);
        }
        due("2 fifth", x.hole(), FULL);
        due("2 count", x.count(0), 4);
    }

    private static void run() {
        CoreShed x = new CoreShed();
        due("3 no hole", x.run(0, 1, 0), UNKNOWN);
        x.hole();
        due("3 unknown ahead of outside", x.run(1, 0, 0), UNKNOWN);
        due("3 below", x.run(-1, 1, 1), UNKNOWN);
        due("3 lowest", x.run(LOWEST, 1, 1), UNKNOWN);
        due("3 highest", x.run(HIGHEST, 1, 1), UNKNOWN);
        due("3 drilled 0", x.run(0, 0, 0), OUTSIDE);
        due("3 drilled 1001", x.run(0, 1001, 5), OUTSIDE);
        due("3 recovered below", x.run(0, 10, -1), OUTSIDE);
        due("3 recovered above", x.run(0, 10, 11), OUTSIDE);
        due("3 drilled lowest", x.run(0, LOWEST, LOWEST), OUTSIDE);
        due("3 drilled 1", x.run(0, 1, 0), 1);
        due("3 drilled 1000", x.run(0, 1000, 1000), 1001);
        for (int r = 2; r < 20; r++) {
            due("3 run", x.run(0, 2, 1), 1001 + 2 * (r - 1));
        }
        due("3 full", x.run(0, 1, 1), FULL);
        due("3 outside ahead of full", x.run(0, 0, 0), OUTSIDE);
        x.layer(0, 1, 3, 0);
        due("3 state ahead of full", x.run(0, 1, 1), STATE);
        due("3 outside ahead of state", x.run(0, 5, 6), OUTSIDE);
        runStates();
    }

    private static void runStates() {
        CoreShed x = withHoles(10, 10, 10, 10);
        x.layer(0, 0, 3, 0);
        x.layer(1, 1, 3, 0);
        x.sample(2, 0, 5);
        x.mark(3, 2);
        due("3 has log 0", x.run(0, 1, 1), STATE);
        due("3 has log 1", x.run(1, 1, 1), STATE);
        due("3 has sample", x.run(2, 1, 1), STATE);
        due("3 a mark does not matter", x.run(3, 1, 1), 11);
    }

    private static void end() {
        CoreShed x = withHoles(0, 2500);
        due("4 no runs", x.end(0), 0);
        due("4 runs", x.end(1), 2500);
        due("4 unknown", x.end(2), UNKNOWN);
        due("4 below", x.end(-1), UNKNOWN);
        due("4 lowest", x.end(LOWEST), UNKNOWN);
        due("4 highest", x.end(HIGHEST), UNKNOWN);
    }

    private static void recovered() {
        CoreShed x = new CoreShed();
        x.hole();
        due("5 empty hole", x.recovered(0, 0, 0), OUTSIDE);
        x.run(0, 10, 6);
        x.run(0, 5, 0);
        x.run(0, 8, 8);
        due("5 all", x.recovered(0, 0, 23), 14);
        due("5 core lies first", x.recovered(0, 0, 6), 6);
        due("5 loss lies behind", x.recovered(0, 6, 15), 0);
        due("5 over runs", x.recovered(0, 5, 17), 3);
        due("5 last unit", x.recovered(0, 22, 23), 1);
        due("5 unknown", x.recovered(1, 0, 1), UNKNOWN);
        due("5 unknown ahead of outside", x.recovered(-1, 5, 1), UNKNOWN);
        due("5 a is b", x.recovered(0, 4, 4), OUTSIDE);
        due("5 a above b", x.recovered(0, 5, 4), OUTSIDE);
        due("5 a below 0", x.recovered(0, -1, 4), OUTSIDE);
        due("5 b above end", x.recovered(0, 0, 24), OUTSIDE);
        due("5 wide", x.recovered(0, LOWEST, HIGHEST), OUTSIDE);
    }

    private static void mark() {
        CoreShed x = new CoreShed();
        due("6 unknown ahead of outside", x.mark(0, -1), UNKNOWN);
        x.hole();
        due("6 depth below", x.mark(0, -1), OUTSIDE);
        due("6 depth above", x.mark(0, 100001), OUTSIDE);
        due("6 depth 0", x.mark(0, 0), 1);
        due("6 depth 100000", x.mark(0, 100000), 2);
        for (int k = 3; k <= 20; k++) {
            due("6 mark", x.mark(0, k), k);
        }
        due("6 full", x.mark(0, 5), FULL);
        due("6 outside ahead of full", x.mark(0, LOWEST), OUTSIDE);
        due("6 unknown highest", x.mark(HIGHEST, 5), UNKNOWN);
    }

    private static void dueWrong(String what, CoreShed x, int... wrong) {
        int sum = 0;
        for (int k = 0; k < wrong.length; k++) {
            due(what + " isWrong " + k, x.isWrong(0, k), wrong[k]);
            sum += wrong[k];
        }
        due(what + " wrong", x.wrong(0), sum);
        due(what + " one behind the last", x.isWrong(0, wrong.length), UNKNOWN);
    }

    private static CoreShed marked(int bottom, int... depths) {
        CoreShed x = withHoles(bottom);
        marks(x, 0, depths);
        return x;
    }

    private static void mend() {
        dueWrong("7 none", marked(50));
        dueWrong("7 rising", marked(50, 0, 1, 50), 0, 0, 0);
        dueWrong("7 equal ones do not rise", marked(50, 7, 7, 7), 0, 1, 1);
        dueWrong("7 falling: the first stays", marked(50, 9, 8, 7), 0, 1, 1);
        dueWrong("7 first is wrong", marked(50, 40, 1, 2, 3), 1, 0, 0, 0);
        dueWrong("7 of two choices the earlier", marked(50, 12, 9, 20, 30), 0, 1, 0, 0);
        dueWrong("7 earlier by the second", marked(50, 1, 5, 4, 3, 9), 0, 0, 1, 1, 0);
        dueWrong("7 many before few", marked(50, 30, 10, 20, 40, 25, 26), 1, 0, 0, 1, 0, 0);
        dueWrong("7 first kept although a low one follows", marked(50, 20, 30, 1, 2), 0, 0, 1, 1);
        CoreShed x = marked(50, 1, 2);
        due("7 unknown", x.wrong(1), UNKNOWN);
        due("7 unknown below", x.wrong(-1), UNKNOWN);
        due("7 unknown lowest", x.wrong(LOWEST), UNKNOWN);
        due("8 unknown hole", x.isWrong(1, 0), UNKNOWN);
        due("8 unknown mark below", x.isWrong(0, -1), UNKNOWN);
        due("8 unknown mark lowest", x.isWrong(0, LOWEST), UNKNOWN);
        due("8 unknown mark highest", x.isWrong(0, HIGHEST), UNKNOWN);
    }

    private static void mendAgainstEnd() {
        dueWrong("7 at end", marked(50, 50), 0);
        dueWrong("7 above end", marked(50, 51), 1);
        dueWrong("7 above end in between", marked(50, 10, 60, 20), 0, 1, 0);
        dueWrong("7 hole without runs", marked(0, 0, 1), 0, 1);
        CoreShed x = marked(50, 10, 60, 20);
        x.run(0, 10, 0);
        dueWrong("7 after another run", x, 0, 0, 1);
        CoreShed two = withHoles(50, 50);
        marks(two, 0, 9, 8, 7);
        marks(two, 1, 1, 2);
        due("7 hole 0", two.wrong(0), 2);
        due("7 hole 1", two.wrong(1), 0);
        int[] full = {19, 0, 18, 1, 17, 2, 16, 3, 15, 4, 14, 5, 13, 6, 12, 7, 11, 8, 10, 9};
        dueWrong("7 twenty marks", marked(50, full), 1, 0, 1, 0, 1, 0, 1, 0, 1, 0, 1, 0, 1, 0, 1, 0, 1, 0, 0, 1);
    }

    // ---- 9 to 12

    private static void layer() {
        CoreShed x = withHoles(30, 0);
        due("9 unknown hole", x.layer(2, 0, 5, 1), UNKNOWN);
        due("9 unknown log", x.layer(0, 2, 5, 1), UNKNOWN);
        due("9 unknown log ahead of outside", x.layer(0, -1, 0, 99), UNKNOWN);
        due("9 first not above 0", x.layer(0, 0, 0, 1), OUTSIDE);
        due("9 above end", x.layer(0, 0, 31, 1), OUTSIDE);
        due("9 code above", x.layer(0, 0, 5, 10), OUTSIDE);
        due("9 code below", x.layer(0, 0, 5, -1), OUTSIDE);
        due("9 hole without runs", x.layer(1, 0, 1, 1), OUTSIDE);
        due("9 first", x.layer(0, 0, 1, 0), 1);
        due("9 same depth", x.layer(0, 0, 1, 0), OUTSIDE);
        due("9 higher up", x.layer(0, 0, LOWEST, 0), OUTSIDE);
        due("9 logs are apart", x.layer(0, 1, 1, 9), 1);
        due("9 log 1 to end", x.layer(0, 1, 30, 9), 2);
        for (int k = 2; k <= 20; k++) {
            due("9 layer", x.layer(0, 0, k, 3), k);
        }
        due("9 full", x.layer(0, 0, 21, 3), FULL);
        due("9 outside ahead of full", x.layer(0, 0, 20, 3), OUTSIDE);
        due("9 code ahead of full", x.layer(0, 0, 21, 10), OUTSIDE);
    }

    private static void code() {
        CoreShed x = new CoreShed();
        due("10 unknown below", x.code(-1, 1), UNKNOWN);
        due("10 unknown above", x.code(10, 1), UNKNOWN);
        due("10 unknown ahead of outside", x.code(10, 10), UNKNOWN);
        due("10 outside", x.code(9, 10), OUTSIDE);
        due("10 outside below", x.code(0, -1), OUTSIDE);
        due("10 itself at first", x.code(9, 0), 9);
        due("10 what it made", x.code(9, 4), 0);
        due("10 again", x.code(9, 9), 4);
        due("10 edges", x.code(0, 9), 0);
        due("10 edges again", x.code(0, 0), 9);
    }

    private static void rock() {
        CoreShed x = withHoles(30);
        layers(x, 0, 0, 10, 1, 20, 2);
        layers(x, 0, 1, 5, 7);
        due("11 first unit", x.rock(0, 0, 0), 1);
        due("11 last of first", x.rock(0, 0, 9), 1);
        due("11 first of next", x.rock(0, 0, 10), 2);
        due("11 last", x.rock(0, 0, 19), 2);
        due("11 behind", x.rock(0, 0, 20), NONE);
        due("11 ahead", x.rock(0, 0, -1), NONE);
        due("11 lowest", x.rock(0, 0, LOWEST), NONE);
        due("11 highest", x.rock(0, 0, HIGHEST), NONE);
        due("11 other log", x.rock(0, 1, 4), 7);
        due("11 other log behind", x.rock(0, 1, 5), NONE);
        x.code(1, 2);
        x.code(2, 3);
        due("11 by the table once", x.rock(0, 0, 0), 2);
        due("11 by the table", x.rock(0, 0, 10), 3);
        due("11 unknown hole", x.rock(1, 0, 0), UNKNOWN);
        due("11 unknown log", x.rock(0, 2, 0), UNKNOWN);
        due("11 unknown log below", x.rock(0, -1, 0), UNKNOWN);
    }

    private static void agree() {
        CoreShed x = withHoles(60, 60);
        due("12 no layers", x.agree(0), 0);
        layers(x, 0, 0, 15, 1, 22, 2, 40, 1, 60, 3);
        due("12 one log alone", x.agree(0), 0);
        layers(x, 0, 1, 20, 1, 50, 2);
        due("12 both", x.agree(0), 17);
        x.code(3, 2);
        due("12 made alike", x.agree(0), 27);
        x.code(1, 2);
        due("12 all alike", x.agree(0), 50);
        x.code(2, 5);
        due("12 table is not gone through twice", x.agree(0), 15 + 2);
        due("12 other hole", x.agree(1), 0);
        due("12 unknown", x.agree(2), UNKNOWN);
        due("12 unknown lowest", x.agree(LOWEST), UNKNOWN);
    }

    // ---- 13 to 21

    private static void sample() {
        CoreShed x = new CoreShed();
        due("13 unknown ahead of outside", x.sample(0, 5, 1), UNKNOWN);
        x.hole();
        x.hole();
        x.run(0, 40, 30);
        x.run(0, 60, 60);
        x.run(1, 50, 50);
        due("13 a is b", x.sample(0, 5, 5), OUTSIDE);
        due("13 below 0", x.sample(0, -1, 5), OUTSIDE);
        due("13 above end", x.sample(0, 90, 101), OUTSIDE);
        due("13 nothing recovered", x.sample(0, 30, 40), STATE);
        due("13 one unit recovered", x.sample(0, 29, 40), 0);
        due("13 next to it", x.sample(0, 40, 50), 1);
        due("13 before it", x.sample(0, 20, 29), 2);
        due("13 the last unit", x.sample(0, 99, 100), 3);
        due("13 overlaps ahead", x.sample(0, 10, 21), STATE);
        due("13 overlaps behind", x.sample(0, 49, 60), STATE);
        due("13 within", x.sample(0, 42, 43), STATE);
        due("13 around", x.sample(0, 0, 100), STATE);
        due("13 outside ahead of state", x.sample(0, 0, 101), OUTSIDE);
        due("13 same stretch of another hole", x.sample(1, 40, 50), 4);
        for (int s = 5; s < 30; s++) {
            due("13 sample", x.sample(1, s, s + 1), s);
        }
        due("13 full", x.sample(1, 0, 1), FULL);
        due("13 state ahead of full", x.sample(1, 5, 6), STATE);
        due("13 outside ahead of full", x.sample(1, 5, 51), OUTSIDE);
        due("13 count", x.count(1), 30);
    }

    private static void left() {
        CoreShed x = withSamples(2);
        x.batch();
        due("14 four", x.left(0), 4);
        x.put(0, 0);
        due("14 put takes one", x.left(0), 3);
        x.twice(0, 0);
        due("14 a double takes one", x.left(0), 2);
        x.put(1, 0);
        x.twice(1, 0);
        due("14 none", x.left(0), 0);
        due("14 other", x.left(1), 4);
        due("14 unknown", x.left(2), UNKNOWN);
        due("14 unknown below", x.left(-1), UNKNOWN);
        due("14 unknown highest", x.left(HIGHEST), UNKNOWN);
    }

    private static void batch() {
        CoreShed x = new CoreShed();
        for (int b = 0; b < 6; b++) {
            due("15 batch", x.batch(), b);
        }
        due("15 full", x.batch(), FULL);
        due("15 count", x.count(2), 6);
    }

    private static void put() {
        CoreShed x = withSamples(18);
        due("16 unknown batch", x.put(1, 0), UNKNOWN);
        due("16 unknown sample", x.put(0, 18), UNKNOWN);
        due("16 unknown lowest", x.put(LOWEST, LOWEST), UNKNOWN);
        for (int s = 0; s < 16; s++) {
            due("16 put", x.put(0, s), s);
        }
        due("16 full", x.put(0, 16), FULL);
        due("16 full takes nothing", x.left(16), 4);
        due("16 has it, ahead of full", x.put(0, 3), STATE);
        due("16 state takes nothing", x.left(3), 3);
        x.result(0, 15, 1);
        due("16 a result, ahead of full", x.put(0, 16), STATE);
        x.batch();
        due("16 in another batch", x.put(1, 3), 0);
        x.batch();
        x.batch();
        x.put(2, 3);
        x.put(3, 3);
        x.batch();
        due("16 no quarter", x.put(4, 3), STATE);
        x.put(4, 4);
        x.result(4, 0, -1);
        due("16 a result", x.put(4, 5), STATE);
    }

    private static void standard() {
        CoreShed x = withSamples(1);
        due("17 unknown ahead of outside", x.standard(1, -1, -1), UNKNOWN);
        due("17 due below", x.standard(0, -1, 0), OUTSIDE);
        due("17 due above", x.standard(0, 100001, 0), OUTSIDE);
        due("17 off below", x.standard(0, 0, -1), OUTSIDE);
        due("17 off above", x.standard(0, 0, 10001), OUTSIDE);
        due("17 least", x.standard(0, 0, 0), 0);
        due("17 greatest", x.standard(0, 100000, 10000), 1);
        for (int p = 2; p < 16; p++) {
            due("17 place", x.standard(0, p, p), p);
        }
        due("17 full", x.standard(0, 5, 5), FULL);
        due("17 outside ahead of full", x.standard(0, 5, LOWEST), OUTSIDE);
        x.result(0, 3, 0);
        due("17 state ahead of full", x.standard(0, 5, 5), STATE);
        due("17 outside ahead of state", x.standard(0, HIGHEST, 5), OUTSIDE);
    }

    private static void blank() {
        CoreShed x = withSamples(1);
        due("18 unknown", x.blank(1), UNKNOWN);
        due("18 unknown below", x.blank(-1), UNKNOWN);
        for (int p = 0; p < 16; p++) {
            due("18 place", x.blank(0), p);
        }
        due("18 full", x.blank(0), FULL);
        x.result(0, 0, 7);
        due("18 state ahead of full", x.blank(0), STATE);
    }

    private static void twice() {
        CoreShed x = withSamples(2);
        due("19 unknown batch", x.twice(1, 0), UNKNOWN);
        due("19 unknown place", x.twice(0, 0), UNKNOWN);
        due("19 unknown lowest", x.twice(0, LOWEST), UNKNOWN);
        x.put(0, 0);
        x.standard(0, 5, 5);
        x.blank(0);
        due("19 double", x.twice(0, 0), 3);
        due("19 of a standard", x.twice(0, 1), OUTSIDE);
        due("19 of a blank", x.twice(0, 2), OUTSIDE);
        due("19 of a double", x.twice(0, 3), OUTSIDE);
        due("19 behind the last", x.twice(0, 4), UNKNOWN);
        due("19 second double", x.twice(0, 0), 4);
        due("19 third double", x.twice(0, 0), 5);
        due("19 no quarter", x.twice(0, 0), STATE);
        x.put(0, 1);
        for (int p = 7; p < 16; p++) {
            x.blank(0);
        }
        due("19 full", x.twice(0, 6), FULL);
        due("19 full takes nothing", x.left(1), 3);
        due("19 no quarter ahead of full", x.twice(0, 0), STATE);
        x.result(0, 1, 5);
        due("19 a result ahead of full", x.twice(0, 6), STATE);
        due("19 outside ahead of state", x.twice(0, 1), OUTSIDE);
    }

    private static void law() {
        CoreShed x = new CoreShed();
        due("20 unknown", x.law(2, 5), UNKNOWN);
        due("20 unknown ahead of outside", x.law(-1, -5), UNKNOWN);
        due("20 dirt below", x.law(0, -1), OUTSIDE);
        due("20 dirt above", x.law(0, 1001), OUTSIDE);
        due("20 spread below", x.law(1, -1), OUTSIDE);
        due("20 spread above", x.law(1, 1001), OUTSIDE);
        due("20 dirt", x.law(0, 1000), 5);
        due("20 dirt again", x.law(0, 0), 1000);
        due("20 spread", x.law(1, 1000), 100);
        due("20 spread again", x.law(1, 0), 1000);
        due("20 dirt is apart", x.law(0, 3), 0);
        due("20 spread is apart", x.law(1, 3), 0);
    }

    private static void result() {
        CoreShed x = withSamples(1);
        due("21 unknown batch", x.result(1, 0, 0), UNKNOWN);
        due("21 unknown place", x.result(0, 0, 0), UNKNOWN);
        x.put(0, 0);
        due("21 unknown place ahead of outside", x.result(0, 1, 100001), UNKNOWN);
        due("21 unknown place below", x.result(0, -1, 0), UNKNOWN);
        due("21 above", x.result(0, 0, 100001), OUTSIDE);
        due("21 below", x.result(0, 0, -1001), OUTSIDE);
        due("21 refused, none yet", x.about(0, 0, 3), 0);
        due("21 greatest", x.result(0, 0, 100000), 1);
        due("21 it stands", x.about(0, 0, 4), 100000);
        due("21 least", x.result(0, 0, -1000), 1);
        due("21 a later one takes its place", x.about(0, 0, 4), -1000);
        due("21 zero", x.result(0, 0, 0), 1);
        due("21 zero is a result", x.about(0, 0, 3), 1);
    }

    // ---- 22 to 26

    private static void dueStandard(int due, int off, int result, int want) {
        CoreShed x = withSamples(0);
        x.standard(0, due, off);
        x.result(0, 0, result);
        String call = "22 standard " + due + " off " + off + " result " + result;
        due(call, x.sound(0), want);
        due(call + " fault", x.fault(0), want == 1 ? NONE : 0);
        due(call + " count", x.count(4), want);
    }

    private static void soundStandards() {
        dueStandard(500, 20, 520, 1);
        dueStandard(500, 20, 521, 0);
        dueStandard(500, 20, 480, 1);
        dueStandard(500, 20, 479, 0);
        dueStandard(500, 0, 500, 1);
        dueStandard(500, 0, 501, 0);
        dueStandard(0, 4, -5, 1);
        dueStandard(0, 3, -5, 0);
        dueStandard(4, 4, -9, 1);
        dueStandard(4, 3, -8, 0);
        dueStandard(4, 4, -10, 0);
        dueStandard(900, 100, -1000, 0);
        dueStandard(0, 0, -1, 1);
        dueStandard(100000, 10000, 90000, 1);
        dueStandard(100000, 10000, 89999, 0);
    }

    private static void dueBlank(int dirt, int result, int want) {
        CoreShed x = withSamples(0);
        x.law(0, dirt);
        x.blank(0);
        x.result(0, 0, result);
        due("22 blank dirt " + dirt + " result " + result, x.sound(0), want);
    }

    private static void soundBlanks() {
        dueBlank(5, 5, 1);
        dueBlank(5, 6, 0);
        dueBlank(5, -6, 1);
        dueBlank(5, -7, 0);
        dueBlank(0, 0, 1);
        dueBlank(0, -1, 1);
        dueBlank(0, 1, 0);
        dueBlank(1000, 1000, 1);
        dueBlank(1000, 1001, 0);
        dueBlank(999, -1000, 1);
    }

    private static void dueDouble(int spread, int result, int doubled, int want) {
        CoreShed x = withSamples(1);
        x.law(1, spread);
        x.put(0, 0);
        x.twice(0, 0);
        results(x, 0, result, doubled);
        String call = "22 double spread " + spread + " results " + result + ", " + doubled;
        due(call, x.sound(0), want);
        due(call + " fault", x.fault(0), want == 1 ? NONE : 1);
    }

    private static void soundDoubles() {
        dueDouble(100, 1000, 900, 1);
        dueDouble(100, 1000, 899, 0);
        dueDouble(100, 900, 1000, 1);
        dueDouble(100, 899, 1000, 0);
        dueDouble(100, 0, 0, 1);
        dueDouble(100, 0, 1, 0);
        dueDouble(0, 7, 7, 1);
        dueDouble(0, 7, 8, 0);
        dueDouble(1000, 0, 100000, 1);
        dueDouble(999, 0, 100000, 0);
        dueDouble(100, -11, 10, 1);
        dueDouble(100, -11, 9, 1);
        dueDouble(100, -11, 8, 0);
        dueDouble(100, -11, -11, 1);
        dueDouble(100, -11, -9, 0);
        dueDouble(100, 10, -11, 1);
        dueDouble(333, 3, 2, 0);
        dueDouble(334, 3, 2, 1);
        dueDouble(1, 100000, 99900, 1);
        dueDouble(1, 100000, 99899, 0);
    }

    private static void soundStates() {
        CoreShed x = withSamples(2);
        due("22 unknown", x.sound(1), UNKNOWN);
        due("22 unknown below", x.sound(-1), UNKNOWN);
        due("22 no place", x.sound(0), STATE);
        due("23 unknown", x.fault(1), UNKNOWN);
        due("23 no place", x.fault(0), STATE);
        due("24 unknown", x.swap(1), UNKNOWN);
        due("24 no place", x.swap(0), STATE);
        x.put(0, 0);
        x.blank(0);
        x.result(0, 1, 900);
        due("22 a place without result", x.sound(0), STATE);
        due("23 a place without result", x.fault(0), STATE);
        due("24 a place without result", x.swap(0), STATE);
        x.result(0, 0, 900);
        due("22 all have", x.sound(0), 0);
        x.law(0, 900);
        due("22 by the law of now", x.sound(0), 1);
        x.result(0, 1, 901);
        due("22 by the result of now", x.sound(0), 0);
    }

    private static void fault() {
        CoreShed x = withSamples(1);
        x.put(0, 0);
        x.blank(0);
        x.standard(0, 50, 5);
        x.twice(0, 0);
        results(x, 0, 100, 6, 40, 50);
        due("23 first is the blank", x.fault(0), 1);
        x.result(0, 1, 5);
        due("23 then the standard", x.fault(0), 2);
        x.result(0, 2, 45);
        due("23 of a double the double's", x.fault(0), 3);
        x.result(0, 3, 90);
        due("23 none", x.fault(0), NONE);
        due("23 unknown highest", x.fault(HIGHEST), UNKNOWN);
    }

    private static void swap() {
        CoreShed x = withSamples(2);
        x.put(0, 0);
        x.blank(0);
        x.put(0, 1);
        results(x, 0, 2, 300, 4);
        due("24 the least of two", x.swap(0), 0);
        due("24 nothing is exchanged", x.about(0, 1, 4), 300);
        x.result(0, 0, 6);
        due("24 the one that mends", x.swap(0), 1);
        x.result(0, 2, 6);
        due("24 none mends", x.swap(0), NONE);
        x.result(0, 1, 5);
        due("24 sound", x.swap(0), NONE);
        CoreShed far = withSamples(2);
        far.blank(0);
        far.put(0, 0);
        far.put(0, 1);
        results(far, 0, 50, 60, 1);
        due("24 not next to one another", far.swap(0), NONE);
        CoreShed alone = withSamples(1);
        alone.blank(0);
        alone.result(0, 0, 50);
        due("24 one place", alone.swap(0), NONE);
        CoreShed last = withSamples(0);
        for (int p = 0; p < 15; p++) {
            last.blank(0);
        }
        last.standard(0, 500, 1);
        for (int p = 0; p < 16; p++) {
            last.result(0, p, p == 14 ? 500 : 0);
        }
        due("24 the last two of sixteen", last.swap(0), 14);
    }

    private static void exchange() {
        CoreShed x = withSamples(1);
        due("25 unknown batch", x.exchange(1, 0), UNKNOWN);
        due("25 unknown place", x.exchange(0, 0), UNKNOWN);
        x.put(0, 0);
        due("25 unknown next", x.exchange(0, 0), UNKNOWN);
        x.blank(0);
        due("25 below", x.exchange(0, -1), UNKNOWN);
        due("25 highest", x.exchange(0, HIGHEST), UNKNOWN);
        due("25 none has", x.exchange(0, 0), STATE);
        x.result(0, 0, 7);
        due("25 the second has none", x.exchange(0, 0), STATE);
        due("25 unknown next ahead of state", x.exchange(0, 1), UNKNOWN);
        x.result(0, 1, -8);
        due("25 exchange", x.exchange(0, 0), 1);
        due("25 first", x.about(0, 0, 4), -8);
        due("25 second", x.about(0, 1, 4), 7);
        due("25 sorts stay", x.about(0, 1, 0), 2);
        CoreShed y = withSamples(1);
        y.put(0, 0);
        y.blank(0);
        y.result(0, 1, 3);
        due("25 the first has none", y.exchange(0, 0), STATE);
        due("25 nothing moved", y.about(0, 1, 4), 3);
    }

    private static void dueAbout(CoreShed x, int place, int... want) {
        for (int what = 0; what < want.length; what++) {
            due("26 about(0, " + place + ", " + what + ")", x.about(0, place, what), want[what]);
        }
    }

    private static void about() {
        CoreShed x = withSamples(3);
        due("26 unknown batch", x.about(1, 0, 0), UNKNOWN);
        due("26 unknown place ahead of outside", x.about(0, 0, 9), UNKNOWN);
        x.standard(0, 500, 20);
        x.put(0, 2);
        x.blank(0);
        x.twice(0, 1);
        dueAbout(x, 0, 1, 500, 20, 0, 0, OUTSIDE);
        dueAbout(x, 1, 0, 2, 0, 0, 0, OUTSIDE);
        dueAbout(x, 2, 2, 0, 0, 0, 0, OUTSIDE);
        dueAbout(x, 3, 3, 1, 0, 0, 0, OUTSIDE);
        results(x, 0, 510, -4, 0, 7);
        dueAbout(x, 0, 1, 500, 20, 1, 510);
        dueAbout(x, 1, 0, 2, 0, 1, -4);
        dueAbout(x, 2, 2, 0, 0, 1, 0);
        dueAbout(x, 3, 3, 1, 0, 1, 7);
        due("26 outside below", x.about(0, 0, -1), OUTSIDE);
        due("26 behind the last place", x.about(0, 4, 0), UNKNOWN);
        due("26 outside lowest", x.about(0, 0, LOWEST), OUTSIDE);
    }

    // ---- 27, 28

    private static void grade() {
        CoreShed x = withSamples(3);
        x.batch();
        x.batch();
        due("27 unknown ahead of outside", x.grade(3, 5), UNKNOWN);
        due("27 unknown below", x.grade(-1, 0), UNKNOWN);
        due("27 side 2", x.grade(0, 2), OUTSIDE);
        due("27 side below", x.grade(0, -1), OUTSIDE);
        due("27 in no batch", x.grade(0, 0), NONE);
        x.blank(0);
        x.put(0, 0);
        x.put(1, 0);
        x.put(2, 0);
        x.put(2, 1);
        due("27 no results", x.grade(0, 0), NONE);
        results(x, 0, 900, 10);
        due("27 batch is not sound", x.grade(0, 1), NONE);
        results(x, 2, -50, 33);
        due("27 lower", x.grade(0, 0), 0);
        due("27 upper", x.grade(0, 1), 49);
        due("27 of the other", x.grade(1, 0), 33);
        results(x, 1, 20);
        due("27 an earlier batch", x.grade(0, 0), 20);
        x.result(0, 0, 0);
        due("27 the first batch", x.grade(0, 1), 10);
        due("27 still none", x.grade(2, 0), NONE);
        CoreShed y = withSamples(1);
        y.put(0, 0);
        y.twice(0, 0);
        results(y, 0, 100, 95);
        due("27 not as double", y.grade(0, 0), 100);
        y.result(0, 0, 0);
        due("27 grade 0 needs a sound batch", y.grade(0, 0), NONE);
        y.result(0, 1, 0);
        due("27 grade 0", y.grade(0, 0), 0);
    }

    private static void composite() {
        CoreShed x = withHoles(100, 100);
        x.sample(0, 10, 20);
        x.sample(0, 20, 50);
        x.sample(0, 60, 70);
        x.sample(1, 10, 20);
        x.batch();
        x.put(0, 0);
        x.put(0, 1);
        x.put(0, 3);
        results(x, 0, 100, -41, 7);
        due("28 lower", x.composite(0, 0, 100, 100000, 0), 1000);
        due("28 upper", x.composite(0, 0, 100, 100000, 1), 1000 + 30 * 40);
        due("28 units with grades", x.composite(0, 0, 100, 100000, 2), 40);
        due("28 in part", x.composite(0, 15, 25, 100000, 1), 500 + 200);
        due("28 units in part", x.composite(0, 15, 25, 1, 2), 10);
        due("28 one unit", x.composite(0, 19, 20, 1000, 0), 100);
        due("28 top cuts", x.composite(0, 0, 100, 60, 1), 600 + 1200);
        due("28 top 1", x.composite(0, 0, 100, 1, 1), 40);
        due("28 other hole", x.composite(1, 0, 100, 100, 0), 70);
        due("28 between samples", x.composite(0, 50, 60, 5, 2), 0);
        due("28 without grades", x.composite(0, 60, 70, 5, 1), 0);
        due("28 unknown ahead of outside", x.composite(2, 5, 5, 0, 3), UNKNOWN);
        due("28 no stretch", x.composite(0, 5, 5, 5, 0), OUTSIDE);
        due("28 above end", x.composite(0, 5, 101, 5, 0), OUTSIDE);
        due("28 below 0", x.composite(0, -1, 5, 5, 0), OUTSIDE);
        due("28 top 0", x.composite(0, 0, 5, 0, 0), OUTSIDE);
        due("28 top above", x.composite(0, 0, 5, 100001, 2), OUTSIDE);
        due("28 side 3", x.composite(0, 0, 5, 5, 3), OUTSIDE);
        due("28 side below", x.composite(0, 0, 5, 5, -1), OUTSIDE);
        CoreShed y = withHoles(20000);
        y.sample(0, 0, 20000);
        y.batch();
        y.put(0, 0);
        y.result(0, 0, 100000);
        due("28 the greatest", y.composite(0, 0, 20000, 100000, 0), 2000000000L);
    }

    // ---- 29, 30

    private static void cost() {
        CoreShed x = withHoles(65, 60, 10);
        due("29 no layers", x.cost(0, 1), 0);
        layers(x, 0, 0, 15, 1, 22, 2, 40, 1, 60, 3);
        due("29 one alone", x.cost(0, 1), 60);
        due("29 the other alone", x.cost(1, 0), 60);
        layers(x, 1, 0, 13, 1, 30, 2, 55, 3);
        due("29 cost", x.cost(0, 1), 2 + 10 + 18 + 5);
        due("29 the other way round", x.cost(1, 0), 35);
        due("29 itself", x.cost(0, 0), 0);
        layers(x, 0, 1, 1, 9);
        due("29 log 1 does not matter", x.cost(0, 1), 35);
        x.code(2, 1);
        due("29 by the table", x.cost(0, 1), 15);
        due("29 unknown first", x.cost(3, 0), UNKNOWN);
        due("29 unknown second", x.cost(0, 3), UNKNOWN);
        due("29 unknown below", x.cost(-1, LOWEST), UNKNOWN);
        CoreShed y = withHoles(30, 30);
        layers(y, 0, 0, 10, 1, 20, 2);
        layers(y, 1, 0, 10, 2, 20, 1);
        due("29 pairs do not cross", y.cost(0, 1), 20);
    }

    private static void dueMatched(String what, CoreShed x, int h, int g, int... want) {
        for (int k = 0; k < want.length; k++) {
            due(what + " matched " + k, x.matched(h, g, k), want[k]);
        }
        due(what + " behind the last", x.matched(h, g, want.length), UNKNOWN);
    }

    private static void matched() {
        CoreShed x = withHoles(65, 60, 10);
        layers(x, 0, 0, 15, 1, 22, 2, 40, 1, 60, 3);
        layers(x, 1, 0, 13, 1, 30, 2, 55, 3);
        dueMatched("30", x, 0, 1, 0, 1, NONE, 2);
        dueMatched("30 the other way", x, 1, 0, 0, 1, 3);
        dueMatched("30 itself", x, 0, 0, 0, 1, 2, 3);
        dueMatched("30 with none", x, 0, 2, NONE, NONE, NONE, NONE);
        dueMatched("30 of none", x, 2, 0);
        due("30 unknown first", x.matched(3, 0, 0), UNKNOWN);
        due("30 unknown second", x.matched(0, 3, 0), UNKNOWN);
        due("30 unknown layer below", x.matched(0, 1, -1), UNKNOWN);
        due("30 unknown layer lowest", x.matched(0, 1, LOWEST), UNKNOWN);
        due("30 unknown layer highest", x.matched(0, 1, HIGHEST), UNKNOWN);
        x.code(2, 1);
        dueMatched("30 by the table", x, 0, 1, 0, NONE, 1, 2);
        x.code(2, 2);
        x.code(3, 4);
        dueMatched("30 by the table on both sides", x, 0, 1, 0, 1, NONE, 2);
    }

    private static void matchedByOrder() {
        CoreShed x = withHoles(100, 100);
        layers(x, 0, 0, 10, 1);
        layers(x, 1, 0, 10, 1, 20, 1, 30, 1);
        dueMatched("30 the least number of several", x, 0, 1, 0);
        dueMatched("30 alone is greater than all", x, 1, 0, 0, NONE, NONE);
        CoreShed y = withHoles(100, 100);
        layers(y, 0, 0, 10, 1, 20, 2);
        layers(y, 1, 0, 10, 2, 20, 1);
        dueMatched("30 the first goes, the second is alone", y, 0, 1, 1, NONE);
        CoreShed z = withHoles(100, 100);
        layers(z, 0, 0, 10, 1);
        layers(z, 1, 0, 4, 1, 14, 1);
        dueMatched("30 cost goes ahead of the number", z, 0, 1, 1);
        CoreShed w = withHoles(100, 100);
        layers(w, 0, 0, 1, 1, 6, 1);
        layers(w, 1, 0, 5, 1);
        dueMatched("30 alone if it costs less", w, 0, 1, NONE, 0);
        CoreShed full = withHoles(100, 100);
        for (int k = 1; k <= 20; k++) {
            full.layer(0, 0, k, k % 10);
            full.layer(1, 0, k * 2, k % 10);
        }
        due("29 twenty layers", full.cost(0, 1), 20);
        for (int k = 0; k < 20; k++) {
            due("30 twenty layers", full.matched(0, 1, k), k);
        }
    }

    // ---- 31, 32

    private static void count() {
        CoreShed x = withSamples(3);
        x.batch();
        x.batch();
        x.put(0, 0);
        x.twice(0, 0);
        x.put(1, 1);
        due("31 holes", x.count(0), 1);
        due("31 samples", x.count(1), 3);
        due("31 batches", x.count(2), 3);
        due("31 quarters taken", x.count(3), 3);
        due("31 none is sound", x.count(4), 0);
        results(x, 0, 5, 5);
        due("31 one is sound, the empty one is not", x.count(4), 1);
        results(x, 1, 5);
        due("31 two are sound", x.count(4), 2);
        x.result(0, 0, 900);
        due("31 one is not any more", x.count(4), 1);
        due("31 outside", x.count(5), OUTSIDE);
        due("31 outside below", x.count(-1), OUTSIDE);
        due("31 outside lowest", x.count(LOWEST), OUTSIDE);
    }

    private static long digestOf(long... numbers) {
        long d = 173;
        for (long n : numbers) {
            d = 31 * d + n;
        }
        return d;
    }

    private static void digest() {
        CoreShed x = new CoreShed();
        due("32 new", x.digest(), digestOf(0, 1, 2, 3, 4, 5, 6, 7, 8, 9, 5, 100));
        x.hole();
        x.batch();
        due("32 empty ones tell nothing", x.digest(), digestOf(0, 1, 2, 3, 4, 5, 6, 7, 8, 9, 5, 100));
        x.hole();
        x.run(0, 40, 30);
        x.run(0, 25, 24);
        x.run(1, 60, 55);
        x.mark(0, 12);
        x.mark(0, 9);
        layers(x, 0, 1, 20, 6);
        layers(x, 0, 0, 15, 1, 22, 2);
        layers(x, 1, 0, 13, 7);
        x.code(2, 8);
        x.sample(1, 5, 15);
        x.sample(0, 1, 2);
        x.standard(0, 500, 20);
        x.put(0, 1);
        x.blank(0);
        x.twice(0, 1);
        x.result(0, 1, -4);
        x.law(0, 7);
        x.law(1, 70);
        due("32 all", x.digest(), digestOf(
            40, 30, 25, 24, 12, 9, 15, 1, 22, 2, 20, 6,
            60, 55, 13, 7,
            0, 1, 8, 3, 4, 5, 6, 7, 8, 9,
            1, 5, 15, 4, 0, 1, 2, 2,
            1, 500, 20, 0, 0, 0, 1, 0, 1, -4, 2, 0, 0, 0, 0, 3, 1, 0, 0, 0,
            7, 70));
    }

    private static void refusalsChangeNothing() {
        int[] odd = {LOWEST, -1, 6, 7, 99, HIGHEST};
        for (int a : odd) {
            // A new shed each time: nothing is promised behind the 512th call.
            CoreShed x = withSamples(2);
            x.put(0, 0);
            x.blank(0);
            results(x, 0, 3, 4);
            x.mark(0, 5);
            long before = x.digest();
            for (int v : odd) {
                x.run(a, v, v);
                x.run(0, 1, 1);
                x.mark(a, 5);
                x.mark(0, v < 0 || v == HIGHEST ? v : -v);
                x.layer(0, a, 5, 5);
                x.layer(0, 0, 5, a < 0 ? a : a + 10);
                x.code(a == 6 || a == 7 ? 10 : a, 1);
                x.code(3, v == 6 || v == 7 ? 10 : v);
                x.sample(a, 1, 2);
                x.sample(0, 5, v);
                x.put(0, a);
                x.put(0, 0);
                x.put(0, 1);
                x.standard(0, 1, 1);
                x.blank(0);
                x.twice(0, 0);
                x.law(a, 1);
                x.result(0, a, 1);
                x.exchange(0, a);
                x.swap(0);
                due("refusals change nothing", x.digest(), before);
            }
        }
    }

    /** Each row is full: a look one behind its last would leave the array. */
    private static void fullLogs() {
        CoreShed x = withHoles(100, 100, 100);
        for (int k = 1; k <= 20; k++) {
            x.layer(0, 0, k, 1);
            x.layer(0, 1, k * 2, k <= 10 ? 1 : 2);
            x.layer(1, 0, k, 2);
        }
        due("12 full logs", x.agree(0), 20);
        due("11 behind a full log", x.rock(0, 0, 20), NONE);
        due("11 the last of a full log", x.rock(0, 1, 39), 2);
        due("29 full logs, none alike", x.cost(0, 1), 40);
        due("30 full logs, none alike", x.matched(0, 1, 19), NONE);
        due("30 behind a full log", x.matched(0, 1, 20), UNKNOWN);
        due("29 a full log and none", x.cost(2, 0), 20);
        due("30 a full log and none", x.matched(0, 2, 19), NONE);
    }

    private static void fullShed() {
        CoreShed x = withHoles(20, 20, 20, 20);
        for (int s = 0; s < 30; s++) {
            x.sample(s / 10, s % 10, s % 10 + 1);
        }
        for (int b = 0; b < 6; b++) {
            x.batch();
            for (int p = 0; p < 16; p++) {
                x.put(b, (b * 16 + p) % 30);
            }
        }
        for (int k = 0; k < 20; k++) {
            x.mark(3, 19 - k);
        }
        due("end(4)", x.end(4), UNKNOWN);
        due("wrong of full marks", x.wrong(3), 19);
        due("isWrong(3, 20)", x.isWrong(3, 20), UNKNOWN);
        due("left(30)", x.left(30), UNKNOWN);
        due("grade(30)", x.grade(30, 0), UNKNOWN);
        due("put(6, 0)", x.put(6, 0), UNKNOWN);
        due("put(0, 30)", x.put(0, 30), UNKNOWN);
        due("sound(6)", x.sound(6), UNKNOWN);
        due("about(0, 16, 0)", x.about(0, 16, 0), UNKNOWN);
        due("result(5, 16, 0)", x.result(5, 16, 0), UNKNOWN);
        due("twice(5, 16)", x.twice(5, 16), UNKNOWN);
        due("exchange(5, 15)", x.exchange(5, 15), UNKNOWN);
        due("quarters of a full shed", x.count(3), 96);
        for (int b = 0; b < 6; b++) {
            for (int p = 0; p < 16; p++) {
                x.result(b, p, 10);
            }
        }
        due("sound batches of a full shed", x.count(4), 6);
        due("composite of a full shed", x.composite(2, 0, 20, 8, 1), 80);
        due("exchange(5, 14)", x.exchange(5, 14), 1);
    }
}
