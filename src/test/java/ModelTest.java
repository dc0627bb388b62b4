import java.util.ArrayList;
import java.util.Arrays;
import java.util.List;

/** Made-up runs of calls, each answer against that of a slow model of the document's words. */
public final class ModelTest {
    private static final int RUNS = 600;
    /** What an object answers beyond 512 calls is free; one step and the end of a run make 67 at most. */
    private static final int CALLS_AHEAD_OF_THE_LAST_STEP = 512 - 67;
    private static final long THROWN = -99L;

    /** A way with what orders it; edges from the lesser point on. */
    private static final class Way {
        final int weight;
        final int[] edges;

        Way(int weight, int[] edges) {
            this.weight = weight;
            this.edges = edges;
        }

        boolean isAheadOf(Way that) {
            if (that == null || weight != that.weight) {
                return that == null || weight < that.weight;
            }
            if (edges.length != that.edges.length) {
                return edges.length < that.edges.length;
            }
            return Arrays.compare(edges, that.edges) < 0;
        }

        Way and(int edge, int edgeWeight) {
            int[] longer = Arrays.copyOf(edges, edges.length + 1);
            longer[edges.length] = edge;
            return new Way(weight + edgeWeight, longer);
        }

        long asSet() {
            long set = 0;
            for (int edge : edges) {
                set |= 1L << edge;
            }
            return set;
        }
    }

    private static final class Model {
        final List<Boolean> boundary = new ArrayList<>();
        final List<Integer> time = new ArrayList<>();
        /** a, b, weight, signs, erased */
        final List<int[]> edges = new ArrayList<>();
        final List<Integer> fired = new ArrayList<>();
        long kept = 0;
        List<int[]> pairs = new ArrayList<>();
        List<Way> pairWays = new ArrayList<>();
        int least = 0;
        private int bestWeight;
        private int bestCount;
        private List<int[]> best;

        boolean isPoint(int p) {
            return p >= 0 && p < boundary.size();
        }

        long point(boolean isBoundary, int t) {
            if (t < 0 || t > 9 || boundary.size() == 20) {
                return -1;
            }
            boundary.add(isBoundary);
            time.add(t);
            return boundary.size() - 1;
        }

        long edge(int a, int b, int weight, int signs) {
            if (!isPoint(a) || !isPoint(b) || a == b || boundary.get(a) && boundary.get(b)
                    || weight < 0 || weight > 1000000 || signs < 0 || signs > 255 || edges.size() == 60) {
                return -1;
            }
            edges.add(new int[] {a, b, weight, signs, 0});
            return edges.size() - 1;
        }

        long fault(int points, int weight, int signs) {
            List<Integer> set = new ArrayList<>();
            for (int p = 0; p < 32; p++) {
                if ((points & 1 << p) != 0) {
                    set.add(p);
                }
            }
            if (set.size() == 3 && boundary.contains(true)) {
                set.add(boundary.indexOf(true));
            } else if (set.size() != 4) {
                return -1;
            }
            long first = edge(set.get(0), set.get(1), weight, signs);
            if (first >= 0 && edge(set.get(2), set.get(3), 0, 0) < 0) {
                edges.remove((int) first);
                return -1;
            }
            return first;
        }

        boolean fire(int p, boolean on) {
            if (!isPoint(p) || boundary.get(p) || fired.contains(p) == on || on && fired.size() == 10) {
                return false;
            }
            if (on) {
                fired.add(p);
                fired.sort(null);
            } else {
                fired.remove((Integer) p);
            }
            return true;
        }

        boolean erase(int e, boolean on) {
            if (e < 0 || e >= edges.size() || edges.get(e)[4] == 1 == on) {
                return false;
            }
            edges.get(e)[4] = on ? 1 : 0;
            return true;
        }

        int weightOf(int e) {
            return edges.get(e)[4] == 1 ? 0 : edges.get(e)[2];
        }

        int beyond(int e, int p) {
            int[] edge = edges.get(e);
            return edge[0] == p ? edge[1] : edge[1] == p ? edge[0] : -1;
        }

        Way lightest(int a, int b) {
            int from = Math.min(a, b);
            int to = Math.max(a, b);
            return boundary.size() <= 7
                    ? tryAll(from, to, 1 << from, new Way(0, new int[0]), null) : byLength(from, to);
        }

        /** Every way that comes to no point twice. */
        private Way tryAll(int here, int to, int been, Way sofar, Way bestSofar) {
            Way lightest = bestSofar;
            for (int e = 0; e < edges.size(); e++) {
                int next = beyond(e, here);
                if (next < 0 || (been >> next & 1) == 1) {
                    continue;
                }
                Way longer = sofar.and(e, weightOf(e));
                if (next == to) {
                    lightest = longer.isAheadOf(lightest) ? longer : lightest;
                } else if (!boundary.get(next)) {
                    lightest = tryAll(next, to, been | 1 << next, longer, lightest);
                }
            }
            return lightest;
        }

        /** The first of the ways of each length to each point, from those one edge shorter. */
        private Way byLength(int from, int to) {
            Way[] here = new Way[boundary.size()];
            here[from] = new Way(0, new int[0]);
            Way lightest = null;
            for (int length = 1; length < boundary.size(); length++) {
                Way[] next = new Way[boundary.size()];
                for (int e = 0; e < edges.size(); e++) {
                    for (int end = 0; end < 2; end++) {
                        int p = edges.get(e)[end];
                        int q = edges.get(e)[1 - end];
                        if (here[p] != null && (p == from || !boundary.get(p))) {
                            Way longer = here[p].and(e, weightOf(e));
                            next[q] = longer.isAheadOf(next[q]) ? longer : next[q];
                        }
                    }
                }
                here = next;
                // A way that came back to a boundary where it began leads over it.
                here[from] = null;
                if (here[to] != null && here[to].isAheadOf(lightest)) {
                    lightest = here[to];
                }
            }
            return lightest;
        }

        long way(int a, int b, int what) {
            if (!isPoint(a) || !isPoint(b) || a == b || what < 0) {
                return -1;
            }
            Way way = lightest(a, b);
            if (way == null) {
                return -1;
            }
            if (what < 2) {
                return what == 0 ? way.weight : way.edges.length;
            }
            int i = what - 2;
            int n = way.edges.length;
            return i >= n ? -1 : way.edges[a < b ? i : n - 1 - i];
        }

        long decode() {
            int n = boundary.size();
            Way[][] table = new Way[n][n];
            for (int p : fired) {
                for (int q = 0; q < n; q++) {
                    table[p][q] = p == q ? null : lightest(p, q);
                }
            }
            best = null;
            bestCount = 0;
            tryPairs(table, new ArrayList<>(fired), new ArrayList<>(), 0);
            if (best == null) {
                return THROWN;
            }
            pairs = best;
            least = bestCount;
            pairWays = new ArrayList<>();
            for (int[] pair : pairs) {
                pairWays.add(table[pair[0]][pair[1]]);
            }
            return bestWeight;
        }

        /** All pairings, those that come first ahead of the others. */
        private void tryPairs(Way[][] table, List<Integer> left, List<int[]> sofar, int weight) {
            if (left.isEmpty()) {
                if (best == null || weight < bestWeight) {
                    best = new ArrayList<>(sofar);
                    bestWeight = weight;
                    bestCount = 0;
                }
                bestCount += weight == bestWeight ? 1 : 0;
                return;
            }
            int p = left.get(0);
            List<Integer> partners = new ArrayList<>(left.subList(1, left.size()));
            int nearest = -1;
            for (int q = 0; q < boundary.size(); q++) {
                if (boundary.get(q) && table[p][q] != null
                        && (nearest < 0 || table[p][q].weight < table[p][nearest].weight)) {
                    nearest = q;
                }
            }
            if (nearest >= 0) {
                partners.add(nearest);
            }
            for (int q : partners) {
                if (table[p][q] != null) {
                    List<Integer> rest = new ArrayList<>(left);
                    rest.remove((Integer) p);
                    rest.remove((Integer) q);
                    sofar.add(new int[] {p, q});
                    tryPairs(table, rest, sofar, weight + table[p][q].weight);
                    sofar.remove(sofar.size() - 1);
                }
            }
        }

        long pair(int i, int side) {
            return i < 0 || i >= pairs.size() || side < 0 || side > 1 ? -1 : pairs.get(i)[side];
        }

        long fix() {
            long set = 0;
            for (Way way : pairWays) {
                set ^= way.asSet();
            }
            return set;
        }

        long odd(long set, boolean signs) {
            long odd = 0;
            for (int e = 0; e < 64; e++) {
                if ((set & 1L << e) != 0) {
                    if (e >= edges.size()) {
                        return -1;
                    }
                    for (int end = 0; end < 2; end++) {
                        odd ^= signs || boundary.get(edges.get(e)[end]) ? 0 : 1L << edges.get(e)[end];
                    }
                    odd ^= signs ? edges.get(e)[3] : 0;
                }
            }
            return odd;
        }

        long commit(int t) {
            if (t < 0 || t > 10) {
                return -1;
            }
            if (decode() == THROWN) {
                return THROWN;
            }
            int before = fired.size();
            for (int i = 0; i < pairs.size(); i++) {
                int p = pairs.get(i)[0];
                int q = pairs.get(i)[1];
                if (time.get(p) < t && (boundary.get(q) || time.get(q) < t)) {
                    fired.remove((Integer) p);
                    fired.remove((Integer) q);
                    kept ^= pairWays.get(i).asSet();
                }
            }
            return before - fired.size();
        }

        long total(int what) {
            long set = 0;
            for (int p : fired) {
                set |= 1L << p;
            }
            long erased = 0;
            for (int[] edge : edges) {
                erased += edge[4];
            }
            long[] totals = {boundary.size(), edges.size(), set, pairs.size(), erased};
            return what < 0 || what > 4 ? -1 : totals[what];
        }
    }

    private static final class Run {
        final PairDecoder x = new PairDecoder();
        final Model model = new Model();
        final int number;
        final StringBuilder story = new StringBuilder();
        int made = 0;
        long seed;
        /** What makes this run's shape: points at most, weights below, one boundary in so many. */
        final int points;
        final int weights;
        final int inners;

        Run(int number) {
            this.number = number;
            seed = number * 0x9E3779B97F4A7C15L + 12345;
            points = below(3) == 0 ? 20 : 4 + below(8);
            weights = below(4) == 0 ? 1000001 : 1 + below(4);
            inners = 2 + below(5);
        }

        int below(int bound) {
            seed = seed * 6364136223846793005L + 1442695040888963407L;
            return (int) ((seed >>> 33) % bound);
        }

        /** Mostly a number that there is, now and then a wrong one. */
        int number(int count) {
            int[] odd = {-1, count, count + 1, 32, 64, Integer.MIN_VALUE, Integer.MAX_VALUE};
            return count == 0 || below(25) == 0 ? odd[below(odd.length)] : below(count);
        }

        long set(int count) {
            long any = (long) below(1 << 30) << 34 ^ (long) below(1 << 30) << 17 ^ below(1 << 30);
            return below(20) == 0 ? any : any & ((1L << count) - 1);
        }

        boolean due(String call, long got, long want) {
            made++;
            story.append(call).append(" = ").append(got).append('\n');
            if (got != want) {
                System.out.println("run " + number + ":\n" + story + "due is " + want);
            }
            return got == want;
        }

        long decodeOf() {
            try {
                return x.decode();
            } catch (ArithmeticException e) {
                return THROWN;
            }
        }

        long commitOf(int time) {
            try {
                return x.commit(time);
            } catch (ArithmeticException e) {
                return THROWN;
            }
        }

        boolean build() {
            int p = model.boundary.size();
            switch (below(8)) {
                case 0:
                case 1: {
                    boolean b = below(inners) == 0;
                    int t = number(10);
                    return p >= points && points < 20
                            || due("point " + b + " " + t, x.point(b, t), model.point(b, t));
                }
                case 2: {
                    int set = 1 << below(21) | 1 << below(points) | 1 << below(points) | 1 << below(points);
                    int w = number(weights);
                    int s = number(256);
                    return due("fault " + set + " " + w + " " + s, x.fault(set, w, s), model.fault(set, w, s));
                }
                default: {
                    int a = number(p);
                    int b = number(p);
                    int w = number(weights);
                    int s = number(256);
                    return due("edge " + a + " " + b + " " + w + " " + s,
                            x.edge(a, b, w, s), model.edge(a, b, w, s));
                }
            }
        }

        boolean change() {
            boolean on = below(3) != 0;
            switch (below(6)) {
                case 0: {
                    int e = number(model.edges.size());
                    return due("erase " + e + " " + on, x.erase(e, on) ? 1 : 0, model.erase(e, on) ? 1 : 0);
                }
                case 1: {
                    int t = number(11);
                    return below(3) != 0 || due("commit " + t, commitOf(t), model.commit(t));
                }
                default: {
                    int q = number(model.boundary.size());
                    return due("fire " + q + " " + on, x.fire(q, on) ? 1 : 0, model.fire(q, on) ? 1 : 0);
                }
            }
        }

        boolean ask() {
            switch (below(5)) {
                case 0:
                    return due("decode", decodeOf(), model.decode());
                case 1: {
                    long set = set(model.edges.size());
                    return due("signs " + set, x.signs(set), model.odd(set, true))
                            && due("syndrome " + set, x.syndrome(set), model.odd(set, false));
                }
                case 2: {
                    int i = number(5);
                    int side = number(2);
                    return due("pair " + i + " " + side, x.pair(i, side), model.pair(i, side));
                }
                default: {
                    int a = number(model.boundary.size());
                    int b = number(model.boundary.size());
                    int what = number(6);
                    return due("way " + a + " " + b + " " + what, x.way(a, b, what), model.way(a, b, what));
                }
            }
        }

        boolean askAll() {
            boolean right = due("least", x.least(), model.least) && due("fix", x.fix(), model.fix())
                    && due("kept", x.kept(), model.kept);
            for (int what = -1; what < 6 && right; what++) {
                right = due("total " + what, x.total(what), model.total(what));
            }
            for (int i = 0; i < 11 && right; i++) {
                right = due("pair " + i + " 0", x.pair(i, 0), model.pair(i, 0))
                        && due("pair " + i + " 1", x.pair(i, 1), model.pair(i, 1));
            }
            return right;
        }

        boolean isRight() {
            int building = 5 + below(100);
            boolean right = true;
            for (int call = 0; call < 200 && made <= CALLS_AHEAD_OF_THE_LAST_STEP && right; call++) {
                int kind = below(10);
                right = call < building || kind == 0 ? build() : kind < 7 ? change() : ask();
                if (below(20) == 0) {
                    right = right && askAll();
                }
            }
            return right && due("decode", decodeOf(), model.decode()) && askAll();
        }
    }

    public static void main(String[] args) {
        int wrong = 0;
        for (int number = 0; number < RUNS && wrong < 3; number++) {
            wrong += new Run(number).isRight() ? 0 : 1;
        }
        System.out.println(wrong == 0 ? RUNS + " runs are as due" : "some answers are not as due");
        if (wrong != 0) {
            System.exit(1);
        }
    }
}
