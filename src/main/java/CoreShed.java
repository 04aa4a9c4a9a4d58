/** A core shed: holes, logs, samples, batches, grades and the matching of layers, as ../shared/DOC.md tells. */
public final class CoreShed {
    public static final int NONE = -1, UNKNOWN = -101, OUTSIDE = -102, STATE = -103, FULL = -104;

    private static final int MOST_HOLES = 4;
    private static final int MOST_RUNS = 20;
    private static final int MOST_DRILLED = 1000;
    private static final int MOST_MARKS = 20;
    private static final int DEEPEST_MARK = 100000;
    private static final int MOST_LAYERS = 20;
    private static final int CODES = 10;
    private static final int MOST_SAMPLES = 30;
    private static final int QUARTERS = 4;
    private static final int MOST_BATCHES = 6;
    private static final int MOST_PLACES = 16;
    private static final int GREATEST_NUMBER = 100000;
    private static final int GREATEST_OFF = 10000;
    private static final int LEAST_RESULT = -1000;
    private static final int GREATEST_LAW = 1000;
    private static final int THOUSAND = 1000;

    private static final int SORT_SAMPLE = 0;
    private static final int SORT_STANDARD = 1;
    private static final int SORT_BLANK = 2;
    private static final int SORT_DOUBLE = 3;

    private final Hole[] holes = new Hole[MOST_HOLES];
    private final Sample[] samples = new Sample[MOST_SAMPLES];
    private final Batch[] batches = new Batch[MOST_BATCHES];
    private final int[] table = new int[CODES];
    private final Mend mend = new Mend();
    private final Matching matching = new Matching();
    private int holeCount;
    private int sampleCount;
    private int batchCount;
    private int dirt = 5;
    private int spread = 100;

    public CoreShed() {
        for (int c = 0; c < CODES; c++) {
            table[c] = c;
        }
    }

    // ---- holes

    public int hole() {
        if (holeCount >= MOST_HOLES) {
            return FULL;
        }
        holes[holeCount] = new Hole();
        holeCount++;
        return holeCount - 1;
    }

    public int run(int h, int drilled, int recovered) {
        Hole hole = holeNamed(h);
        if (hole == null) {
            return UNKNOWN;
        }
        if (!isWithin(drilled, 1, MOST_DRILLED) || !isWithin(recovered, 0, drilled)) {
            return OUTSIDE;
        }
        if (hole.isLogged() || isSampled(h)) {
            return STATE;
        }
        if (hole.runCount >= MOST_RUNS) {
            return FULL;
        }
        hole.addRun(drilled, recovered);
        return hole.bottom;
    }

    public int end(int h) {
        Hole hole = holeNamed(h);
        return hole == null ? UNKNOWN : hole.bottom;
    }

    public int recovered(int h, int a, int b) {
        Hole hole = holeNamed(h);
        if (hole == null) {
            return UNKNOWN;
        }
        if (!hole.isStretch(a, b)) {
            return OUTSIDE;
        }
        return hole.coreWithin(a, b);
    }

    public int mark(int h, int depth) {
        Hole hole = holeNamed(h);
        if (hole == null) {
            return UNKNOWN;
        }
        if (!isWithin(depth, 0, DEEPEST_MARK)) {
            return OUTSIDE;
        }
        if (hole.markCount >= MOST_MARKS) {
            return FULL;
        }
        hole.marks[hole.markCount] = depth;
        hole.markCount++;
        return hole.markCount;
    }

    public int wrong(int h) {
        Hole hole = holeNamed(h);
        if (hole == null) {
            return UNKNOWN;
        }
        return hole.markCount - mend.choose(hole);
    }

    public int isWrong(int h, int k) {
        Hole hole = holeNamed(h);
        if (hole == null || k < 0 || k >= hole.markCount) {
            return UNKNOWN;
        }
        mend.choose(hole);
        return mend.chosen[k] ? 0 : 1;
    }

    // ---- logs

    public int layer(int h, int log, int to, int code) {
        Hole hole = holeNamed(h);
        Log rows = logNamed(h, log);
        if (hole == null || rows == null) {
            return UNKNOWN;
        }
        if (!isWithin(to, rows.bottom() + 1, hole.bottom) || !isCode(code)) {
            return OUTSIDE;
        }
        if (rows.size >= MOST_LAYERS) {
            return FULL;
        }
        rows.add(to, code);
        return rows.size;
    }

    public int code(int code, int to) {
        if (!isCode(code)) {
            return UNKNOWN;
        }
        if (!isCode(to)) {
            return OUTSIDE;
        }
        int before = table[code];
        table[code] = to;
        return before;
    }

    public int rock(int h, int log, int x) {
        Log rows = logNamed(h, log);
        if (rows == null) {
            return UNKNOWN;
        }
        int k = rows.indexAt(x);
        return k == NONE ? NONE : table[rows.codes[k]];
    }

    public int agree(int h) {
        Hole hole = holeNamed(h);
        if (hole == null) {
            return UNKNOWN;
        }
        Log one = hole.firstLog;
        Log other = hole.secondLog;
        int units = 0;
        for (int i = 0; i < one.size; i++) {
            for (int j = 0; j < other.size; j++) {
                if (table[one.codes[i]] == table[other.codes[j]]) {
                    units += unitsInCommon(one.top(i), one.depths[i], other.top(j), other.depths[j]);
                }
            }
        }
        return units;
    }

    // ---- samples, batches

    public int sample(int h, int a, int b) {
        Hole hole = holeNamed(h);
        if (hole == null) {
            return UNKNOWN;
        }
        if (!hole.isStretch(a, b)) {
            return OUTSIDE;
        }
        if (isTaken(h, a, b) || hole.coreWithin(a, b) == 0) {
            return STATE;
        }
        if (sampleCount >= MOST_SAMPLES) {
            return FULL;
        }
        samples[sampleCount] = new Sample(h, a, b);
        sampleCount++;
        return sampleCount - 1;
    }

    public int left(int s) {
        Sample sample = sampleNamed(s);
        return sample == null ? UNKNOWN : sample.quarters;
    }

    public int batch() {
        if (batchCount >= MOST_BATCHES) {
            return FULL;
        }
        batches[batchCount] = new Batch();
        batchCount++;
        return batchCount - 1;
    }

    public int put(int b, int s) {
        Batch batch = batchNamed(b);
        Sample sample = sampleNamed(s);
        if (batch == null || sample == null) {
            return UNKNOWN;
        }
        if (batch.placeOf(s) != null) {
            return STATE;
        }
        return addPlaceWithQuarter(batch, SORT_SAMPLE, s, sample);
    }

    public int standard(int b, int due, int off) {
        Batch batch = batchNamed(b);
        if (batch == null) {
            return UNKNOWN;
        }
        if (!isWithin(due, 0, GREATEST_NUMBER) || !isWithin(off, 0, GREATEST_OFF)) {
            return OUTSIDE;
        }
        return addPlace(batch, SORT_STANDARD, due, off);
    }

    public int blank(int b) {
        Batch batch = batchNamed(b);
        return batch == null ? UNKNOWN : addPlace(batch, SORT_BLANK, 0, 0);
    }

    public int twice(int b, int place) {
        Batch batch = batchNamed(b);
        Place doubled = placeNamed(b, place);
        if (batch == null || doubled == null) {
            return UNKNOWN;
        }
        Sample sample = doubled.sort == SORT_SAMPLE ? sampleNamed(doubled.about) : null;
        if (sample == null) {
            return OUTSIDE;
        }
        return addPlaceWithQuarter(batch, SORT_DOUBLE, place, sample);
    }

    public int law(int which, int v) {
        if (which != 0 && which != 1) {
            return UNKNOWN;
        }
        if (!isWithin(v, 0, GREATEST_LAW)) {
            return OUTSIDE;
        }
        int before = which == 0 ? dirt : spread;
        if (which == 0) {
            dirt = v;
        } else {
            spread = v;
        }
        return before;
    }

    public int result(int b, int place, int v) {
        Place row = placeNamed(b, place);
        if (row == null) {
            return UNKNOWN;
        }
        if (!isWithin(v, LEAST_RESULT, GREATEST_NUMBER)) {
            return OUTSIDE;
        }
        row.hasResult = true;
        row.result = v;
        return 1;
    }

    public int sound(int b) {
        Batch batch = batchNamed(b);
        if (batch == null) {
            return UNKNOWN;
        }
        if (!batch.isComplete()) {
            return STATE;
        }
        return batch.isSound(dirt, spread) ? 1 : 0;
    }

    public int fault(int b) {
        Batch batch = batchNamed(b);
        if (batch == null) {
            return UNKNOWN;
        }
        return batch.isComplete() ? batch.firstFault(dirt, spread) : STATE;
    }

    public int swap(int b) {
        Batch batch = batchNamed(b);
        if (batch == null) {
            return UNKNOWN;
        }
        if (!batch.isComplete()) {
            return STATE;
        }
        return batch.isSound(dirt, spread) ? NONE : batch.leastMendingSwap(dirt, spread);
    }

    public int exchange(int b, int place) {
        Place row = placeNamed(b, place);
        // Only behind a known place is place + 1 sure not to wrap around.
        Place next = row == null ? null : placeNamed(b, place + 1);
        if (row == null || next == null) {
            return UNKNOWN;
        }
        if (!row.hasResult || !next.hasResult) {
            return STATE;
        }
        row.exchangeResult(next);
        return 1;
    }

    public int about(int b, int place, int what) {
        Place row = placeNamed(b, place);
        if (row == null) {
            return UNKNOWN;
        }
        return isWithin(what, 0, 4) ? row.told(what) : OUTSIDE;
    }

    // ---- grades

    public int grade(int s, int side) {
        if (sampleNamed(s) == null) {
            return UNKNOWN;
        }
        if (side != 0 && side != 1) {
            return OUTSIDE;
        }
        Place graded = gradingPlace(s);
        return graded == null ? NONE : graded.endOn(side);
    }

    public long composite(int h, int a, int b, int top, int side) {
        Hole hole = holeNamed(h);
        if (hole == null) {
            return UNKNOWN;
        }
        if (!hole.isStretch(a, b) || !isWithin(side, 0, 2) || !isWithin(top, 1, GREATEST_NUMBER)) {
            return OUTSIDE;
        }
        long sum = 0;
        for (int s = 0; s < sampleCount; s++) {
            int units = samples[s].unitsWithin(h, a, b);
            Place graded = units == 0 ? null : gradingPlace(s);
            if (graded != null) {
                sum += (long) units * (side == 2 ? 1 : Math.min(graded.endOn(side), top));
            }
        }
        return sum;
    }

    // ---- matched

    public int cost(int h, int g) {
        Hole one = holeNamed(h);
        Hole other = holeNamed(g);
        if (one == null || other == null) {
            return UNKNOWN;
        }
        matching.weigh(one.firstLog, other.firstLog, table);
        return matching.least[0][0];
    }

    public int matched(int h, int g, int k) {
        Hole one = holeNamed(h);
        Hole other = holeNamed(g);
        if (one == null || other == null || k < 0 || k >= one.firstLog.size) {
            return UNKNOWN;
        }
        matching.weigh(one.firstLog, other.firstLog, table);
        return matching.partnerOf(k, one.firstLog, other.firstLog, table);
    }

    // ---- what is told

    public int count(int what) {
        switch (what) {
            case 0:
                return holeCount;
            case 1:
                return sampleCount;
            case 2:
                return batchCount;
            case 3:
                return quartersTaken();
            case 4:
                return soundBatches();
            default:
                return OUTSIDE;
        }
    }

    public long digest() {
        long d = 173;
        for (int h = 0; h < holeCount; h++) {
            d = holes[h].digestOnto(d);
        }
        for (int c = 0; c < CODES; c++) {
            d = mixed(d, table[c]);
        }
        for (int s = 0; s < sampleCount; s++) {
            d = samples[s].digestOnto(d);
        }
        for (int b = 0; b < batchCount; b++) {
            d = batches[b].digestOnto(d);
        }
        return mixed(mixed(d, dirt), spread);
    }

    // ---- what the calls share

    private Hole holeNamed(int h) {
        return h >= 0 && h < holeCount ? holes[h] : null;
    }

    private Log logNamed(int h, int log) {
        Hole hole = holeNamed(h);
        if (hole == null || (log != 0 && log != 1)) {
            return null;
        }
        return log == 0 ? hole.firstLog : hole.secondLog;
    }

    private Sample sampleNamed(int s) {
        return s >= 0 && s < sampleCount ? samples[s] : null;
    }

    private Batch batchNamed(int b) {
        return b >= 0 && b < batchCount ? batches[b] : null;
    }

    private Place placeNamed(int b, int place) {
        Batch batch = batchNamed(b);
        return batch != null && place >= 0 && place < batch.size ? batch.places[place] : null;
    }

    private boolean isSampled(int h) {
        for (int s = 0; s < sampleCount; s++) {
            if (samples[s].hole == h) {
                return true;
            }
        }
        return false;
    }

    private boolean isTaken(int h, int a, int b) {
        for (int s = 0; s < sampleCount; s++) {
            if (samples[s].unitsWithin(h, a, b) > 0) {
                return true;
            }
        }
        return false;
    }

    private static int addPlace(Batch batch, int sort, int about, int off) {
        if (batch.hasAnyResult()) {
            return STATE;
        }
        if (batch.size >= MOST_PLACES) {
            return FULL;
        }
        batch.places[batch.size] = new Place(sort, about, off);
        batch.size++;
        return batch.size - 1;
    }

    private static int addPlaceWithQuarter(Batch batch, int sort, int about, Sample sample) {
        if (sample.quarters == 0) {
            return STATE;
        }
        int place = addPlace(batch, sort, about, 0);
        if (place >= 0) {
            sample.quarters--;
        }
        return place;
    }

    /** The PLACE whose RESULT is THE GRADE of a SAMPLE; null: it has none. */
    private Place gradingPlace(int s) {
        for (int b = 0; b < batchCount; b++) {
            Place place = batches[b].placeOf(s);
            if (place != null && batches[b].isSound(dirt, spread)) {
                return place;
            }
        }
        return null;
    }

    private int quartersTaken() {
        int taken = 0;
        for (int s = 0; s < sampleCount; s++) {
            taken += QUARTERS - samples[s].quarters;
        }
        return taken;
    }

    private int soundBatches() {
        int many = 0;
        for (int b = 0; b < batchCount; b++) {
            if (batches[b].isSound(dirt, spread)) {
                many++;
            }
        }
        return many;
    }

    private static boolean isWithin(int v, int least, int greatest) {
        return v >= least && v <= greatest;
    }

    private static boolean isCode(int code) {
        return isWithin(code, 0, CODES - 1);
    }

    private static int unitsInCommon(int from, int to, int otherFrom, int otherTo) {
        return Math.max(0, Math.min(to, otherTo) - Math.max(from, otherFrom));
    }

    private static long mixed(long d, long number) {
        return 31 * d + number;
    }

    /** RUNS, MARKS and both LOGS of a HOLE. */
    private static final class Hole {
        final int[] drilled = new int[MOST_RUNS];
        final int[] cored = new int[MOST_RUNS];
        final int[] marks = new int[MOST_MARKS];
        final Log firstLog = new Log();
        final Log secondLog = new Log();
        int runCount;
        int markCount;
        int bottom;

        void addRun(int units, int core) {
            drilled[runCount] = units;
            cored[runCount] = core;
            runCount++;
            bottom += units;
        }

        boolean isLogged() {
            return firstLog.size > 0 || secondLog.size > 0;
        }

        boolean isStretch(int a, int b) {
            return a >= 0 && a < b && b <= bottom;
        }

        int coreWithin(int a, int b) {
            int units = 0;
            int from = 0;
            for (int r = 0; r < runCount; r++) {
                units += unitsInCommon(from, from + cored[r], a, b);
                from += drilled[r];
            }
            return units;
        }

        long digestOnto(long start) {
            long d = start;
            for (int r = 0; r < runCount; r++) {
                d = mixed(mixed(d, drilled[r]), cored[r]);
            }
            for (int k = 0; k < markCount; k++) {
                d = mixed(d, marks[k]);
            }
            return secondLog.digestOnto(firstLog.digestOnto(d));
        }
    }

    /** LAYERS from the top down, with CODES as they were logged: THE TABLE may change later. */
    private static final class Log {
        final int[] depths = new int[MOST_LAYERS];
        final int[] codes = new int[MOST_LAYERS];
        int size;

        void add(int to, int rockCode) {
            depths[size] = to;
            codes[size] = rockCode;
            size++;
        }

        int top(int k) {
            return k == 0 ? 0 : depths[k - 1];
        }

        int bottom() {
            return top(size);
        }

        int thickness(int k) {
            return depths[k] - top(k);
        }

        int indexAt(int x) {
            for (int k = 0; k < size; k++) {
                if (x >= top(k) && x < depths[k]) {
                    return k;
                }
            }
            return NONE;
        }

        long digestOnto(long start) {
            long d = start;
            for (int k = 0; k < size; k++) {
                d = mixed(mixed(d, depths[k]), codes[k]);
            }
            return d;
        }
    }

    /** THE MEND; its rows are made once and used by every call. */
    private static final class Mend {
        /** Of each MARK how many can rise from it on, itself among them; 0: it is above END. */
        final int[] rising = new int[MOST_MARKS];
        final boolean[] chosen = new boolean[MOST_MARKS];

        /** Chooses the MARKS that are right, and tells how many. */
        int choose(Hole hole) {
            int most = measure(hole);
            int needed = most;
            int last = -1;
            for (int k = 0; k < hole.markCount; k++) {
                // A MARK that still leads to the most is taken: the earliest choice comes first.
                chosen[k] = needed > 0 && hole.marks[k] > last && rising[k] == needed;
                if (chosen[k]) {
                    last = hole.marks[k];
                    needed--;
                }
            }
            return most;
        }

        private int measure(Hole hole) {
            int most = 0;
            for (int k = hole.markCount - 1; k >= 0; k--) {
                rising[k] = hole.marks[k] > hole.bottom ? 0 : 1 + mostAbove(hole, k);
                most = Math.max(most, rising[k]);
            }
            return most;
        }

        private int mostAbove(Hole hole, int k) {
            int most = 0;
            for (int j = k + 1; j < hole.markCount; j++) {
                if (hole.marks[j] > hole.marks[k]) {
                    most = Math.max(most, rising[j]);
                }
            }
            return most;
        }
    }

    /** A STRETCH of a HOLE and its QUARTERS that are left. */
    private static final class Sample {
        final int hole;
        final int from;
        final int to;
        int quarters = QUARTERS;

        Sample(int hole, int from, int to) {
            this.hole = hole;
            this.from = from;
            this.to = to;
        }

        int unitsWithin(int h, int a, int b) {
            return hole == h ? unitsInCommon(from, to, a, b) : 0;
        }

        long digestOnto(long d) {
            return mixed(mixed(mixed(mixed(d, hole), from), to), quarters);
        }
    }

    /** A PLACE; about is its SAMPLE, what is due, 0, or the PLACE that it doubles, by its sort. */
    private static final class Place {
        final int sort;
        final int about;
        final int off;
        boolean hasResult;
        int result;

        Place(int sort, int about, int off) {
            this.sort = sort;
            this.about = about;
            this.off = off;
        }

        int lower() {
            return Math.max(result, 0);
        }

        int upper() {
            return result < 0 ? -result - 1 : result;
        }

        int endOn(int side) {
            return side == 0 ? lower() : upper();
        }

        void exchangeResult(Place next) {
            int before = result;
            result = next.result;
            next.result = before;
        }

        int told(int what) {
            switch (what) {
                case 0:
                    return sort;
                case 1:
                    return about;
                case 2:
                    return off;
                case 3:
                    return hasResult ? 1 : 0;
                default:
                    return result;
            }
        }
    }

    /** PLACES in order. */
    private static final class Batch {
        final Place[] places = new Place[MOST_PLACES];
        int size;

        /** The PLACE with a SAMPLE, not as DOUBLE; null: there is none. */
        Place placeOf(int s) {
            for (int p = 0; p < size; p++) {
                if (places[p].sort == SORT_SAMPLE && places[p].about == s) {
                    return places[p];
                }
            }
            return null;
        }

        boolean hasAnyResult() {
            for (int p = 0; p < size; p++) {
                if (places[p].hasResult) {
                    return true;
                }
            }
            return false;
        }

        boolean isComplete() {
            for (int p = 0; p < size; p++) {
                if (!places[p].hasResult) {
                    return false;
                }
            }
            return size > 0;
        }

        boolean isSound(int dirt, int spread) {
            return isComplete() && firstFault(dirt, spread) == NONE;
        }

        int firstFault(int dirt, int spread) {
            for (int p = 0; p < size; p++) {
                if (!isRight(places[p], dirt, spread)) {
                    return p;
                }
            }
            return NONE;
        }

        private boolean isRight(Place place, int dirt, int spread) {
            switch (place.sort) {
                case SORT_STANDARD:
                    return Math.abs(place.lower() - place.about) <= place.off
                        && Math.abs(place.upper() - place.about) <= place.off;
                case SORT_BLANK:
                    return place.upper() <= dirt;
                case SORT_DOUBLE:
                    return isNear(place.upper(), places[place.about].upper(), spread);
                default:
                    return true;
            }
        }

        private static boolean isNear(int one, int other, int spread) {
            // Thousandths are compared multiplied out, so that nothing is rounded.
            return Math.abs(one - other) * THOUSAND <= spread * Math.max(one, other);
        }

        int leastMendingSwap(int dirt, int spread) {
            for (int p = 0; p + 1 < size; p++) {
                places[p].exchangeResult(places[p + 1]);
                boolean mends = isSound(dirt, spread);
                places[p].exchangeResult(places[p + 1]);
                if (mends) {
                    return p;
                }
            }
            return NONE;
        }

        long digestOnto(long start) {
            long d = start;
            for (int p = 0; p < size; p++) {
                for (int what = 0; what <= 4; what++) {
                    d = mixed(d, places[p].told(what));
                }
            }
            return d;
        }
    }

    /** MATCHING of two LOGS; its rows are made once and used by every call. */
    private static final class Matching {
        /** The least sum for the LAYERS from i on of the one and from j on of the other. */
        final int[][] least = new int[MOST_LAYERS + 1][MOST_LAYERS + 1];

        void weigh(Log one, Log other, int[] table) {
            for (int i = one.size; i >= 0; i--) {
                for (int j = other.size; j >= 0; j--) {
                    least[i][j] = leastFrom(i, j, one, other, table);
                }
            }
        }

        private int leastFrom(int i, int j, Log one, Log other, int[] table) {
            if (i == one.size) {
                return other.bottom() - other.top(j);
            }
            if (j == other.size) {
                return one.bottom() - one.top(i);
            }
            int sum = Math.min(one.thickness(i) + least[i + 1][j], other.thickness(j) + least[i][j + 1]);
            return isAlike(i, j, one, other, table) ? Math.min(sum, pairedSum(i, j, one, other)) : sum;
        }

        private static boolean isAlike(int i, int j, Log one, Log other, int[] table) {
            return table[one.codes[i]] == table[other.codes[j]];
        }

        private int pairedSum(int i, int j, Log one, Log other) {
            return Math.abs(one.thickness(i) - other.thickness(j)) + least[i + 1][j + 1];
        }

        /** Behind weigh(): goes down LAYER by LAYER, each with the least number that keeps THE COST. */
        int partnerOf(int k, Log one, Log other, int[] table) {
            int next = 0;
            int partner = NONE;
            for (int i = 0; i <= k; i++) {
                partner = leastPartner(i, next, one, other, table);
                if (partner != NONE) {
                    next = partner + 1;
                }
            }
            return partner;
        }

        private int leastPartner(int i, int from, Log one, Log other, int[] table) {
            for (int j = from; j < other.size; j++) {
                int skipped = other.top(j) - other.top(from);
                if (isAlike(i, j, one, other, table)
                    && skipped + pairedSum(i, j, one, other) == least[i][from]) {
                    return j;
                }
            }
            return NONE;
        }
    }
}
