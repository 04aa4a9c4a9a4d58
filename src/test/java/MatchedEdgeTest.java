/** Boundary cases of promises 29 and 30: MATCHING LAYERS at THE COST. */
public final class MatchedEdgeTest extends Edge {
    private MatchedEdgeTest() {
        super("MatchedEdgeTest");
    }

    public static void main(String[] args) {
        MatchedEdgeTest test = new MatchedEdgeTest();
        test.costNamesTwoHoles();
        test.matchedNamesTwoHolesAndALayer();
        test.withoutLayers();
        test.oneLayerEach();
        test.logOneDoesNotMatter();
        test.withItself();
        test.pairsDoNotCross();
        test.codesByTheTable();
        test.leastNumberOfSeveral();
        test.aloneIsGreaterThanAll();
        test.costGoesAhead();
        test.laterLayersOfSeveralWays();
        test.twentyLayers();
        test.greatestCost();
        test.oneMatchingAfterAnother();
        test.finish();
    }

    private static Start logs(int[] one, int[] other) {
        return x -> {
            holes(x, 100, 100);
            layers(x, 0, 0, one);
            layers(x, 1, 0, other);
        };
    }

    private static int[] of(int... numbers) {
        return numbers;
    }

    /** THE COST of HOLES 0 and 1, and with which LAYER of HOLE 1 each of HOLE 0 goes. */
    private void match(String what, Start start, int cost, int... partners) {
        unchanged("29 " + what, start, x -> x.cost(0, 1), cost);
        unchanged("29 " + what + ", the other way", start, x -> x.cost(1, 0), cost);
        for (int k = 0; k < partners.length; k++) {
            int which = k;
            unchanged("30 " + what + ", LAYER " + k, start, x -> x.matched(0, 1, which), partners[k]);
        }
        unchanged("30 " + what + ", behind the last", start, x -> x.matched(0, 1, partners.length), UNKNOWN);
    }

    // ---- 29: "UNKNOWN.", 30: "UNKNOWN: h, g, k."

    private static void four(CoreShed x) {
        holes(x, 9, 9, 9, 9);
        layers(x, 0, 0, 5, 1);
        layers(x, 3, 0, 3, 1, 9, 2);
    }

    private void costNamesTwoHoles() {
        Start start = MatchedEdgeTest::four;
        range("29 h", start, (x, v) -> x.cost(v, 0), 0, 0, 3, 8, UNKNOWN);
        range("29 g", start, (x, v) -> x.cost(0, v), 0, 0, 3, 8, UNKNOWN);
        range("29 both", start, (x, v) -> x.cost(v, v), 0, 0, 3, 0, UNKNOWN);
        range("29 h of one", x -> holes(x, 0), (x, v) -> x.cost(v, 0), 0, 0, 0, 0, UNKNOWN);
        never("29 no HOLES", Edge::nothing, (x, v) -> x.cost(0, v), UNKNOWN);
    }

    private void matchedNamesTwoHolesAndALayer() {
        Start start = MatchedEdgeTest::four;
        range("30 h", start, (x, v) -> x.matched(v, 3, 1), 3, 1, 3, 1, UNKNOWN);
        range("30 h of four", x -> {
            four(x);
            layers(x, 1, 0, 5, 1);
            layers(x, 2, 0, 5, 1);
        }, (x, v) -> x.matched(v, 0, 0), 0, 0, 3, 0, UNKNOWN);
        range("30 g", start, (x, v) -> x.matched(0, v, 0), 0, 0, 3, 0, UNKNOWN);
        range("30 k of one", start, (x, v) -> x.matched(0, 3, v), 0, 0, 0, 0, UNKNOWN);
        range("30 k of two", start, (x, v) -> x.matched(3, 0, v), 0, 0, 1, NONE, UNKNOWN);
        never("30 k of none", start, (x, v) -> x.matched(1, 3, v), UNKNOWN);
        never("30 no HOLES", Edge::nothing, (x, v) -> x.matched(0, v, 0), UNKNOWN);
    }

    private void withoutLayers() {
        match("no LAYERS", logs(of(), of()), 0);
        match("no RUNS", x -> holes(x, 0, 0), 0);
        match("none of the other", logs(of(5, 1, 7, 2), of()), 7, NONE, NONE);
        match("none of the one", logs(of(), of(5, 1, 7, 2)), 7);
    }

    private void oneLayerEach() {
        match("the same thickness", logs(of(5, 1), of(5, 1)), 0, 0);
        match("one unit thicker", logs(of(6, 1), of(5, 1)), 1, 0);
        match("one unit thinner", logs(of(4, 1), of(5, 1)), 1, 0);
        match("one unit and a hundred", logs(of(1, 1), of(100, 1)), 99, 0);
        match("another CODE", logs(of(5, 1), of(5, 2)), 10, NONE);
        match("another CODE, one unit each", logs(of(1, 0), of(1, 9)), 2, NONE);
    }

    private void logOneDoesNotMatter() {
        Start start = x -> {
            logs(of(5, 1), of(5, 2)).on(x);
            layers(x, 0, 1, 5, 2, 9, 3);
            layers(x, 1, 1, 5, 1);
        };
        match("LOG 1", start, 10, NONE);
        match("LOG 1 alone", x -> {
            holes(x, 100, 100);
            layers(x, 0, 1, 5, 2);
            layers(x, 1, 1, 5, 2);
        }, 0);
    }

    private void withItself() {
        Start start = logs(of(5, 1, 9, 2, 12, 1), of(100, 1));
        unchanged("29 with itself", start, x -> x.cost(0, 0), 0);
        for (int k = 0; k < 3; k++) {
            int which = k;
            unchanged("30 with itself, LAYER " + k, start, x -> x.matched(0, 0, which), k);
        }
    }

    private void pairsDoNotCross() {
        match("two that would cross", logs(of(10, 1, 20, 2), of(10, 2, 20, 1)), 20, 1, NONE);
        match("the thicker pair stays", logs(of(10, 1, 21, 2), of(11, 2, 21, 1)), 20, NONE, 0);
        match("the other thicker pair stays", logs(of(11, 1, 21, 2), of(10, 2, 21, 1)), 20, 1, NONE);
        match("two do not go with one", logs(of(5, 1, 10, 1), of(10, 1)), 10, 0, NONE);
        match("one does not go with two", logs(of(10, 1), of(5, 1, 10, 1)), 10, 0);
    }

    private void codesByTheTable() {
        Start start = logs(of(5, 1), of(7, 2));
        match("THE TABLE at first", start, 12, NONE);
        match("the one made the other", x -> {
            start.on(x);
            x.code(1, 2);
        }, 2, 0);
        match("both made a third", x -> {
            start.on(x);
            x.code(1, 9);
            x.code(2, 9);
        }, 2, 0);
        match("both changed, not in a chain", x -> {
            start.on(x);
            x.code(1, 2);
            x.code(2, 3);
        }, 12, NONE);
        match("the same CODE made another", x -> {
            logs(of(5, 1), of(7, 1)).on(x);
            x.code(1, 4);
        }, 2, 0);
    }

    // ---- 30: "of several ways the one where LAYER 0 of h goes with the least number"

    private void leastNumberOfSeveral() {
        match("the first of three", logs(of(10, 1), of(10, 1, 20, 1, 30, 1)), 20, 0);
        match("the first of those that cost the least", logs(of(10, 1), of(4, 1, 14, 1, 24, 1)), 14, 1);
        match("the last alone costs the least", logs(of(10, 1), of(9, 1, 18, 1, 28, 1)), 18, 2);
        match("two of three", logs(of(10, 1, 20, 1), of(10, 1, 20, 1, 30, 1)), 10, 0, 1);
    }

    private void aloneIsGreaterThanAll() {
        match("LAYER 0 goes, LAYER 1 is alone", logs(of(10, 1, 20, 1), of(10, 1)), 10, 0, NONE);
        match("the last number rather than alone", logs(of(10, 1, 20, 2), of(10, 2, 20, 3, 30, 1)), 30, 2, NONE);
    }

    private void costGoesAhead() {
        match("alone, if it costs less", logs(of(1, 1, 6, 1), of(5, 1)), 1, NONE, 0);
        match("a greater number, if it costs less", logs(of(10, 1), of(1, 1, 11, 1)), 1, 1);
        match("one thick pair rather than two thin ones", logs(of(10, 1, 11, 2, 12, 3), of(1, 2, 2, 3, 12, 1)), 4, 2, NONE,
            NONE);
        match("two pairs rather than one as thick", logs(of(10, 1, 20, 2, 30, 3), of(10, 2, 20, 3, 30, 1)), 20, NONE, 0, 1);
    }

    private void laterLayersOfSeveralWays() {
        match("LAYER 1 with the least number", logs(of(5, 2, 15, 1), of(5, 2, 15, 1, 25, 1)), 10, 0, 1);
        match("LAYER 1 goes behind the partner of LAYER 0", logs(of(5, 1, 10, 2), of(5, 2, 10, 1, 15, 2)), 5, 1, 2);
        match("LAYER 0 alone in all, LAYER 1 the least", logs(of(5, 9, 15, 1), of(10, 1, 20, 1)), 15, NONE, 0);
        match("LAYER 1 alone, LAYER 2 the least", logs(of(5, 1, 10, 8, 15, 1), of(5, 1, 10, 1, 15, 1)), 10, 0, NONE, 1);
    }

    // ---- "LAYERS (20 at most)"

    private void twentyLayers() {
        Start alike = x -> {
            holes(x, 100, 100);
            thinLayers(x, 0, 0, 20, 3);
            for (int k = 1; k <= 20; k++) {
                x.layer(1, 0, k * 2, 3);
            }
        };
        int[] partners = new int[20];
        int[] alone = new int[20];
        for (int k = 0; k < 20; k++) {
            partners[k] = k;
            alone[k] = NONE;
        }
        match("twenty and twenty", alike, 20, partners);
        Start unlike = x -> {
            alike.on(x);
            layers(x, 1, 0, 50, 4);
            x.hole();
        };
        match("the twenty-first is refused", unlike, 20, partners);
        match("twenty and twenty of other CODES", x -> {
            holes(x, 100, 100);
            thinLayers(x, 0, 0, 20, 3);
            thinLayers(x, 1, 0, 20, 4);
        }, 40, alone);
        match("twenty and none", x -> {
            holes(x, 100, 100);
            thinLayers(x, 0, 0, 20, 3);
        }, 20, alone);
        due("30 none of twenty", x -> {
            holes(x, 100, 100);
            thinLayers(x, 1, 0, 20, 3);
        }, x -> x.matched(0, 1, 0), UNKNOWN);
        due("30 the last of twenty with the last", x -> {
            holes(x, 100, 100);
            thinLayers(x, 0, 0, 19, 3);
            x.layer(0, 0, 20, 4);
            thinLayers(x, 1, 0, 19, 5);
            x.layer(1, 0, 20, 4);
        }, x -> x.matched(0, 1, 19), 19);
        due("30 the first of twenty with the last", x -> {
            holes(x, 100, 100);
            x.layer(0, 0, 1, 4);
            for (int k = 2; k <= 20; k++) {
                x.layer(0, 0, k, 3);
            }
            thinLayers(x, 1, 0, 19, 5);
            x.layer(1, 0, 20, 4);
        }, x -> x.matched(0, 1, 0), 19);
    }

    private void greatestCost() {
        Start deep = x -> {
            x.hole();
            x.hole();
            runs(x, 0, 20, 1000, 0);
            runs(x, 1, 20, 1000, 0);
            x.layer(0, 0, 20000, 1);
            x.layer(1, 0, 20000, 2);
        };
        match("the greatest", deep, 40000, NONE);
        match("the thickest pair", x -> {
            deep.on(x);
            x.code(1, 2);
        }, 0, 0);
    }

    private void oneMatchingAfterAnother() {
        Start start = x -> {
            holes(x, 100, 100, 100, 100);
            thinLayers(x, 0, 0, 20, 3);
            thinLayers(x, 1, 0, 20, 4);
            layers(x, 2, 0, 5, 3, 9, 4);
            x.cost(0, 1);
            x.matched(1, 0, 19);
        };
        due("29 few LAYERS behind many", start, x -> x.cost(2, 2), 0);
        due("30 few LAYERS behind many", start, x -> x.matched(2, 2, 1), 1);
        due("29 few with many", start, x -> x.cost(2, 0), 4 + 19 + 4);
        due("29 no LAYERS behind many", start, x -> x.cost(3, 3), 0);
        due("29 few with none behind many", start, x -> x.cost(3, 2), 9);
        due("30 few with none behind many", start, x -> x.matched(2, 3, 0), NONE);
        due("29 many behind few", x -> {
            start.on(x);
            x.cost(2, 3);
        }, x -> x.cost(0, 1), 40);
    }
}
