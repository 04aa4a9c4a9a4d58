import java.util.ArrayList;
import java.util.List;

/**
 * The document once more, unit by unit and choice by choice, as slow and plain as can be.
 * It shares no way of working with CoreShed, so that a slip in one shows against the other.
 */
final class PlainShed {
    private static final int NONE = -1, UNKNOWN = -101, OUTSIDE = -102, STATE = -103, FULL = -104;

    private static final class Hole {
        /** One for each unit: whether its core was recovered. */
        final List<Boolean> core = new ArrayList<>();
        final List<int[]> runs = new ArrayList<>();
        final List<Integer> marks = new ArrayList<>();
        final List<List<int[]>> logs = List.of(new ArrayList<>(), new ArrayList<>());
        boolean sampled;
    }

    private static final class Place {
        int sort, about, off;
        Integer result;
    }

    private final List<Hole> holes = new ArrayList<>();
    private final List<int[]> samples = new ArrayList<>();
    private final List<List<Place>> batches = new ArrayList<>();
    private final int[] table = {0, 1, 2, 3, 4, 5, 6, 7, 8, 9};
    private final int[] laws = {5, 100};

    // ---- holes

    int hole() {
        if (holes.size() == 4) return FULL;
        holes.add(new Hole());
        return holes.size() - 1;
    }

    int run(int h, int drilled, int recovered) {
        if (!names(h, holes)) return UNKNOWN;
        if (drilled < 1 || drilled > 1000 || recovered < 0 || recovered > drilled) return OUTSIDE;
        Hole hole = holes.get(h);
        if (!hole.logs.get(0).isEmpty() || !hole.logs.get(1).isEmpty() || hole.sampled) return STATE;
        if (hole.runs.size() == 20) return FULL;
        hole.runs.add(new int[] {drilled, recovered});
        for (int u = 0; u < drilled; u++) hole.core.add(u < recovered);
        return hole.core.size();
    }

    int end(int h) {
        return names(h, holes) ? holes.get(h).core.size() : UNKNOWN;
    }

    int recovered(int h, int a, int b) {
        if (!names(h, holes)) return UNKNOWN;
        if (!stretch(h, a, b)) return OUTSIDE;
        int n = 0;
        for (int u = a; u < b; u++) if (holes.get(h).core.get(u)) n++;
        return n;
    }

    int mark(int h, int depth) {
        if (!names(h, holes)) return UNKNOWN;
        if (depth < 0 || depth > 100000) return OUTSIDE;
        List<Integer> marks = holes.get(h).marks;
        if (marks.size() == 20) return FULL;
        marks.add(depth);
        return marks.size();
    }

    int wrong(int h) {
        if (!names(h, holes)) return UNKNOWN;
        return holes.get(h).marks.size() - Integer.bitCount(mend(h));
    }

    int isWrong(int h, int k) {
        if (!names(h, holes) || !names(k, holes.get(h).marks)) return UNKNOWN;
        int n = holes.get(h).marks.size();
        return (mend(h) >> (n - 1 - k) & 1) == 1 ? 0 : 1;
    }

    /** All choices one by one; the first MARK is the highest bit, so the earlier choice is the greater number. */
    private int mend(int h) {
        List<Integer> marks = holes.get(h).marks;
        int best = 0;
        for (int choice = 0; choice < 1 << marks.size(); choice++) {
            if (rises(marks, choice, end(h)) && Integer.bitCount(choice) >= Integer.bitCount(best)) best = choice;
        }
        return best;
    }

    private static boolean rises(List<Integer> marks, int choice, int bottom) {
        int last = -1;
        for (int k = 0; k < marks.size(); k++) {
            if ((choice >> (marks.size() - 1 - k) & 1) == 0) continue;
            if (marks.get(k) <= last || marks.get(k) > bottom) return false;
            last = marks.get(k);
        }
        return true;
    }

    // ---- logs

    int layer(int h, int log, int to, int code) {
        if (!names(h, holes) || log < 0 || log > 1) return UNKNOWN;
        List<int[]> layers = holes.get(h).logs.get(log);
        int ahead = layers.isEmpty() ? 0 : layers.get(layers.size() - 1)[0];
        if (to <= ahead || to > end(h) || code < 0 || code > 9) return OUTSIDE;
        if (layers.size() == 20) return FULL;
        layers.add(new int[] {to, code});
        return layers.size();
    }

    int code(int code, int to) {
        if (code < 0 || code > 9) return UNKNOWN;
        if (to < 0 || to > 9) return OUTSIDE;
        int was = table[code];
        table[code] = to;
        return was;
    }

    int rock(int h, int log, int x) {
        if (!names(h, holes) || log < 0 || log > 1) return UNKNOWN;
        if (x < 0) return NONE;
        for (int[] layer : holes.get(h).logs.get(log)) if (x < layer[0]) return table[layer[1]];
        return NONE;
    }

    int agree(int h) {
        if (!names(h, holes)) return UNKNOWN;
        int n = 0;
        for (int u = 0; u < end(h); u++) if (rock(h, 0, u) != NONE && rock(h, 0, u) == rock(h, 1, u)) n++;
        return n;
    }

    // ---- samples, batches

    int sample(int h, int a, int b) {
        if (!names(h, holes)) return UNKNOWN;
        if (!stretch(h, a, b)) return OUTSIDE;
        for (int u = a; u < b; u++) if (sampleAt(h, u) != NONE) return STATE;
        if (recovered(h, a, b) == 0) return STATE;
        if (samples.size() == 30) return FULL;
        samples.add(new int[] {h, a, b, 4});
        holes.get(h).sampled = true;
        return samples.size() - 1;
    }

    int left(int s) {
        return names(s, samples) ? samples.get(s)[3] : UNKNOWN;
    }

    int batch() {
        if (batches.size() == 6) return FULL;
        batches.add(new ArrayList<>());
        return batches.size() - 1;
    }

    int put(int b, int s) {
        if (!names(b, batches) || !names(s, samples)) return UNKNOWN;
        for (Place p : batches.get(b)) if (p.sort == 0 && p.about == s) return STATE;
        return place(b, 0, s, 0, samples.get(s));
    }

    int standard(int b, int due, int off) {
        if (!names(b, batches)) return UNKNOWN;
        if (due < 0 || due > 100000 || off < 0 || off > 10000) return OUTSIDE;
        return place(b, 1, due, off, null);
    }

    int blank(int b) {
        return names(b, batches) ? place(b, 2, 0, 0, null) : UNKNOWN;
    }

    int twice(int b, int place) {
        if (!names(b, batches) || !names(place, batches.get(b))) return UNKNOWN;
        Place of = batches.get(b).get(place);
        return of.sort == 0 ? place(b, 3, place, 0, samples.get(of.about)) : OUTSIDE;
    }

    private int place(int b, int sort, int about, int off, int[] sample) {
        if (sample != null && sample[3] == 0) return STATE;
        for (Place p : batches.get(b)) if (p.result != null) return STATE;
        if (batches.get(b).size() == 16) return FULL;
        Place made = new Place();
        made.sort = sort;
        made.about = about;
        made.off = off;
        batches.get(b).add(made);
        if (sample != null) sample[3]--;
        return batches.get(b).size() - 1;
    }

    int law(int which, int v) {
        if (which < 0 || which > 1) return UNKNOWN;
        if (v < 0 || v > 1000) return OUTSIDE;
        int was = laws[which];
        laws[which] = v;
        return was;
    }

    int result(int b, int place, int v) {
        if (!names(b, batches) || !names(place, batches.get(b))) return UNKNOWN;
        if (v < -1000 || v > 100000) return OUTSIDE;
        batches.get(b).get(place).result = v;
        return 1;
    }

    int sound(int b) {
        int fault = fault(b);
        return fault < NONE ? fault : fault == NONE ? 1 : 0;
    }

    int fault(int b) {
        if (!names(b, batches)) return UNKNOWN;
        List<Place> places = batches.get(b);
        if (places.isEmpty()) return STATE;
        for (Place p : places) if (p.result == null) return STATE;
        for (int k = 0; k < places.size(); k++) if (!right(places, places.get(k))) return k;
        return NONE;
    }

    private boolean right(List<Place> places, Place p) {
        int low = low(p), high = high(p);
        if (p.sort == 1) return p.about - p.off <= low && high <= p.about + p.off;
        if (p.sort == 2) return high <= laws[0];
        if (p.sort == 3) {
            long other = high(places.get(p.about));
            long less = Math.min(high, other), more = Math.max(high, other);
            return more * 1000 - less * 1000 <= more * laws[1];
        }
        return true;
    }

    private static int low(Place p) {
        return p.result < 0 ? 0 : p.result;
    }

    private static int high(Place p) {
        return p.result < 0 ? -p.result - 1 : p.result;
    }

    int swap(int b) {
        int sound = sound(b);
        if (sound != 0) return sound == 1 ? NONE : sound;
        int found = NONE;
        for (int k = batches.get(b).size() - 2; k >= 0; k--) {
            exchange(b, k);
            if (sound(b) == 1) found = k;
            exchange(b, k);
        }
        return found;
    }

    int exchange(int b, int place) {
        if (!names(b, batches) || place < 0 || place >= batches.get(b).size() - 1) return UNKNOWN;
        Place one = batches.get(b).get(place), other = batches.get(b).get(place + 1);
        if (one.result == null || other.result == null) return STATE;
        Integer kept = one.result;
        one.result = other.result;
        other.result = kept;
        return 1;
    }

    int about(int b, int place, int what) {
        if (!names(b, batches) || !names(place, batches.get(b))) return UNKNOWN;
        if (what < 0 || what > 4) return OUTSIDE;
        Place p = batches.get(b).get(place);
        int[] told = {p.sort, p.about, p.off, p.result == null ? 0 : 1, p.result == null ? 0 : p.result};
        return told[what];
    }

    // ---- grades

    int grade(int s, int side) {
        if (!names(s, samples)) return UNKNOWN;
        if (side < 0 || side > 1) return OUTSIDE;
        for (int b = 0; b < batches.size(); b++) {
            for (Place p : batches.get(b)) {
                if (p.sort == 0 && p.about == s && sound(b) == 1) return side == 0 ? low(p) : high(p);
            }
        }
        return NONE;
    }

    long composite(int h, int a, int b, int top, int side) {
        if (!names(h, holes)) return UNKNOWN;
        if (!stretch(h, a, b) || side < 0 || side > 2 || top < 1 || top > 100000) return OUTSIDE;
        long sum = 0;
        for (int u = a; u < b; u++) {
            int s = sampleAt(h, u);
            if (s == NONE || grade(s, 0) == NONE) continue;
            sum += side == 2 ? 1 : Math.min(top, grade(s, side));
        }
        return sum;
    }

    // ---- matched

    int cost(int h, int g) {
        if (!names(h, holes) || !names(g, holes)) return UNKNOWN;
        return bestWay(h, g)[0];
    }

    int matched(int h, int g, int k) {
        if (!names(h, holes) || !names(g, holes) || !names(k, holes.get(h).logs.get(0))) return UNKNOWN;
        int with = bestWay(h, g)[1 + k];
        return with == Integer.MAX_VALUE ? NONE : with;
    }

    /** The least of all ways, told as its cost and then the partner of each LAYER (alone: greater than all). */
    private int[] bestWay(int h, int g) {
        List<int[]> one = holes.get(h).logs.get(0), other = holes.get(g).logs.get(0);
        int[] best = {Integer.MAX_VALUE};
        return allWays(one, other, 0, 0, new int[one.size() + 1], best);
    }

    private int[] allWays(List<int[]> one, List<int[]> other, int i, int from, int[] way, int[] best) {
        if (i == one.size()) {
            way[0] = sumOf(one, other, way);
            return java.util.Arrays.compare(way, best) < 0 ? way.clone() : best;
        }
        int[] least = best;
        for (int j = from; j < other.size(); j++) {
            if (table[one.get(i)[1]] != table[other.get(j)[1]]) continue;
            way[1 + i] = j;
            least = allWays(one, other, i + 1, j + 1, way, least);
        }
        way[1 + i] = Integer.MAX_VALUE;
        return allWays(one, other, i + 1, from, way, least);
    }

    private static int sumOf(List<int[]> one, List<int[]> other, int[] way) {
        int sum = 0;
        boolean[] paired = new boolean[other.size()];
        for (int i = 0; i < one.size(); i++) {
            int with = way[1 + i];
            if (with == Integer.MAX_VALUE) {
                sum += thick(one, i);
            } else {
                paired[with] = true;
                sum += Math.abs(thick(one, i) - thick(other, with));
            }
        }
        for (int j = 0; j < paired.length; j++) if (!paired[j]) sum += thick(other, j);
        return sum;
    }

    private static int thick(List<int[]> layers, int k) {
        return layers.get(k)[0] - (k == 0 ? 0 : layers.get(k - 1)[0]);
    }

    // ---- what is told

    int count(int what) {
        int taken = 0, sound = 0;
        for (int[] s : samples) taken += 4 - s[3];
        for (int b = 0; b < batches.size(); b++) if (sound(b) == 1) sound++;
        int[] told = {holes.size(), samples.size(), batches.size(), taken, sound};
        return what < 0 || what > 4 ? OUTSIDE : told[what];
    }

    long digest() {
        List<Integer> numbers = new ArrayList<>();
        for (Hole hole : holes) {
            for (int[] run : hole.runs) for (int n : run) numbers.add(n);
            numbers.addAll(hole.marks);
            for (List<int[]> log : hole.logs) for (int[] layer : log) for (int n : layer) numbers.add(n);
        }
        for (int c : table) numbers.add(c);
        for (int[] s : samples) for (int n : s) numbers.add(n);
        for (int b = 0; b < batches.size(); b++) {
            for (int p = 0; p < batches.get(b).size(); p++) {
                for (int what = 0; what <= 4; what++) numbers.add(about(b, p, what));
            }
        }
        for (int v : laws) numbers.add(v);
        long d = 173;
        for (int n : numbers) d = d * 31 + n;
        return d;
    }

    private int sampleAt(int h, int u) {
        for (int s = 0; s < samples.size(); s++) {
            int[] sample = samples.get(s);
            if (sample[0] == h && sample[1] <= u && u < sample[2]) return s;
        }
        return NONE;
    }

    private boolean stretch(int h, int a, int b) {
        return 0 <= a && a < b && b <= end(h);
    }

    private static boolean names(int k, List<?> list) {
        return 0 <= k && k < list.size();
    }

    /** How large a search for THE MEND or THE COST would be: runs keep it low. */
    int marksOf(int h) {
        return names(h, holes) ? holes.get(h).marks.size() : 0;
    }

    int layersOf(int h, int log) {
        return names(h, holes) && (log == 0 || log == 1) ? holes.get(h).logs.get(log).size() : 0;
    }
}
