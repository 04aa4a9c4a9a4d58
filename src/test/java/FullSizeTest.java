import java.util.Arrays;
import java.util.Random;

/**
 * THE MEND and THE COST of rows as long as the document allows, 20 MARKS and 20 LAYERS, mixed and with many
 * ties: ModelTest keeps to shorter ones. The seeds are fixed, so the rows are the same each time.
 */
public final class FullSizeTest {
    private static final Check CHECK = new Check("FullSizeTest");
    private static final int LENGTH = 20, MENDS = 40, MATCHES = 400;
    private static final int ALONE = Integer.MAX_VALUE;

    public static void main(String[] args) {
        for (int seed = 0; seed < MENDS; seed++) {
            mend(seed);
        }
        for (int seed = 0; seed < MATCHES; seed++) {
            match(seed);
        }
        CHECK.finish();
    }

    // ---- 7, 8

    private static void mend(int seed) {
        Random random = new Random(seed);
        int bottom = 3 + random.nextInt(40);
        int[] marks = new int[LENGTH];
        CoreShed x = new CoreShed();
        x.hole();
        x.run(0, bottom, 0);
        for (int k = 0; k < LENGTH; k++) {
            // Some depths follow the order, so that long rises come about; some lie above END.
            marks[k] = random.nextInt(3) == 0 ? k * bottom / LENGTH : random.nextInt(bottom + 5);
            CHECK.due("6 mark of run " + seed, x.mark(0, marks[k]), k + 1);
        }
        int right = bestChoice(marks, bottom);
        CHECK.due("7 wrong of run " + seed, x.wrong(0), LENGTH - Integer.bitCount(right));
        for (int k = 0; k < LENGTH; k++) {
            CHECK.due("8 isWrong " + k + " of run " + seed, x.isWrong(0, k), isIn(right, k) ? 0 : 1);
        }
    }

    /** Every choice is tried; the first MARK is the highest bit, so of two as long the greater number goes ahead. */
    private static int bestChoice(int[] marks, int bottom) {
        int best = 0;
        for (int choice = 1; choice < 1 << LENGTH; choice++) {
            if (Integer.bitCount(choice) >= Integer.bitCount(best) && rises(marks, choice, bottom)) {
                best = choice;
            }
        }
        return best;
    }

    private static boolean rises(int[] marks, int choice, int bottom) {
        int last = -1;
        for (int k = 0; k < LENGTH; k++) {
            if (isIn(choice, k)) {
                if (marks[k] <= last || marks[k] > bottom) {
                    return false;
                }
                last = marks[k];
            }
        }
        return true;
    }

    private static boolean isIn(int choice, int k) {
        return (choice >> (LENGTH - 1 - k) & 1) == 1;
    }

    // ---- 29, 30

    private static void match(int seed) {
        Random random = new Random(seed);
        int codes = 1 + random.nextInt(10), thickest = 1 + random.nextInt(6);
        int[][] one = layers(random, codes, thickest), other = layers(random, codes, thickest);
        CoreShed x = new CoreShed();
        log(x, 0, one);
        log(x, 1, other);
        dueWay("run " + seed, x, 0, 1, bestWays(one, other)[0][0]);
        dueWay("run " + seed + ", the other way", x, 1, 0, bestWays(other, one)[0][0]);
        // All CODES alike: what goes together is told by thickness and order alone.
        for (int c = 0; c < 10; c++) {
            x.code(c, 4);
        }
        Arrays.fill(one[1], 4);
        Arrays.fill(other[1], 4);
        dueWay("run " + seed + ", CODES alike", x, 0, 1, bestWays(one, other)[0][0]);
    }

    /** Thicknesses, and CODES. */
    private static int[][] layers(Random random, int codes, int thickest) {
        int[][] made = new int[2][LENGTH];
        for (int k = 0; k < LENGTH; k++) {
            made[0][k] = 1 + random.nextInt(thickest);
            made[1][k] = random.nextInt(codes);
        }
        return made;
    }

    private static void log(CoreShed x, int h, int[][] layers) {
        x.hole();
        x.run(h, 1000, 0);
        int depth = 0;
        for (int k = 0; k < LENGTH; k++) {
            depth += layers[0][k];
            CHECK.due("9 layer", x.layer(h, 0, depth, layers[1][k]), k + 1);
        }
    }

    private static void dueWay(String what, CoreShed x, int h, int g, int[] way) {
        CHECK.due("29 cost of " + what, x.cost(h, g), way[0]);
        for (int k = 0; k < LENGTH; k++) {
            CHECK.due("30 matched " + k + " of " + what, x.matched(h, g, k), way[1 + k] == ALONE ? -1 : way[1 + k]);
        }
    }

    /**
     * For the LAYERS from i on and from j on the least way whole: its cost, then the partner of each LAYER.
     * Whole ways are held against one another, so that the order among ways of one cost is the document's own.
     */
    private static int[][][] bestWays(int[][] one, int[][] other) {
        int[][][] best = new int[LENGTH + 1][LENGTH + 1][];
        for (int i = LENGTH; i >= 0; i--) {
            for (int j = LENGTH; j >= 0; j--) {
                best[i][j] = bestWay(i, j, one, other, best);
            }
        }
        return best;
    }

    private static int[] bestWay(int i, int j, int[][] one, int[][] other, int[][][] best) {
        if (i == LENGTH) {
            return new int[] {sum(other[0], j, LENGTH)};
        }
        int[] least = extended(ALONE, one[0][i], best[i + 1][j]);
        for (int with = j; with < LENGTH; with++) {
            if (one[1][i] == other[1][with]) {
                int cost = sum(other[0], j, with) + Math.abs(one[0][i] - other[0][with]);
                int[] way = extended(with, cost, best[i + 1][with + 1]);
                least = Arrays.compare(way, least) < 0 ? way : least;
            }
        }
        return least;
    }

    private static int[] extended(int partner, int cost, int[] behind) {
        int[] way = new int[behind.length + 1];
        way[0] = cost + behind[0];
        way[1] = partner;
        System.arraycopy(behind, 1, way, 2, behind.length - 1);
        return way;
    }

    private static int sum(int[] numbers, int from, int to) {
        int sum = 0;
        for (int k = from; k < to; k++) {
            sum += numbers[k];
        }
        return sum;
    }
}
