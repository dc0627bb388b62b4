/** Pairs points that fired at least weight; what each call promises stands in DOC.md. */
public final class PairDecoder {
    public static final int NONE = -1;

    private static final int POINT_LIMIT = 20;
    private static final int EDGE_LIMIT = 60;
    private static final int FIRED_LIMIT = 10;
    private static final int TIME_LIMIT = 10;
    private static final int WEIGHT_LIMIT = 1000000;
    private static final int SIGNS_LIMIT = 255;

    private final Graph graph;
    private final Ways ways;
    private final Matcher matcher;
    private final Pairing found;
    private int fired;
    private long keptEdges;

    public PairDecoder() {
        graph = new Graph();
        ways = new Ways(graph);
        matcher = new Matcher(graph, ways);
        found = new Pairing();
        fired = 0;
        keptEdges = 0L;
    }

    public int point(boolean boundary, int time) {
        if (time < 0 || time >= TIME_LIMIT || graph.pointCount >= POINT_LIMIT) {
            return NONE;
        }
        return graph.addPoint(boundary, time);
    }

    public int edge(int a, int b, int weight, int signs) {
        if (!graph.canJoin(a, b) || !areEdgeValues(weight, signs) || !graph.hasRoomFor(1)) {
            return NONE;
        }
        return graph.addEdge(a, b, weight, signs);
    }

    public int fault(int points, int weight, int signs) {
        int size = graph.hasPoints(points) ? Integer.bitCount(points) : 0;
        if (size != 3 && size != 4) {
            return NONE;
        }
        int p = memberOf(points, 0);
        int q = memberOf(points, 1);
        int r = memberOf(points, 2);
        int s = size == 4 ? memberOf(points, 3) : graph.leastBoundary();
        if (!graph.canJoin(p, q) || !graph.canJoin(r, s)
                || !areEdgeValues(weight, signs) || !graph.hasRoomFor(2)) {
            return NONE;
        }
        int first = graph.addEdge(p, q, weight, signs);
        graph.addEdge(r, s, 0, 0);
        return first;
    }

    public boolean fire(int point, boolean on) {
        if (!graph.hasPoint(point) || graph.isBoundary(point) || isFired(point) == on) {
            return false;
        }
        // The limit stops only a further point: one that goes out can't break it.
        if (on && Integer.bitCount(fired) >= FIRED_LIMIT) {
            return false;
        }
        fired ^= 1 << point;
        return true;
    }

    public boolean erase(int edge, boolean on) {
        if (!graph.hasEdge(edge) || graph.isErased(edge) == on) {
            return false;
        }
        graph.turnErased(edge);
        return true;
    }

    public int way(int a, int b, int what) {
        if (!graph.hasPoint(a) || !graph.hasPoint(b) || a == b || what < 0) {
            return NONE;
        }
        ways.measure();
        if (!ways.isThere(a, b)) {
            return NONE;
        }
        if (what == 0) {
            return ways.weightBetween(a, b);
        }
        ways.trace(a, b);
        return what == 1 ? ways.trailLength : ways.trailEdge(what - 2, a > b);
    }

    public int decode() throws ArithmeticException {
        if (!findPairing()) {
            throw new ArithmeticException("there is no pairing");
        }
        return found.weight;
    }

    public int pair(int i, int side) {
        if (i < 0 || i >= found.size) {
            return NONE;
        }
        if (side == 0) {
            return found.lesser[i];
        }
        return side == 1 ? found.other[i] : NONE;
    }

    public int least() {
        return found.leastCount;
    }

    public long fix() {
        return found.oddEdges;
    }

    public int signs(long edges) {
        return graph.hasEdges(edges) ? graph.oddSigns(edges) : NONE;
    }

    public int syndrome(long edges) {
        return graph.hasEdges(edges) ? graph.oddPoints(edges) : NONE;
    }

    public int commit(int time) throws ArithmeticException {
        if (time < 0 || time > TIME_LIMIT) {
            return NONE;
        }
        if (!findPairing()) {
            throw new ArithmeticException("there is no pairing");
        }
        int firedBefore = Integer.bitCount(fired);
        for (int i = 0; i < found.size; i++) {
            if (isPairBefore(i, time)) {
                commitPair(i);
            }
        }
        return firedBefore - Integer.bitCount(fired);
    }

    public long kept() {
        return keptEdges;
    }

    public int total(int what) {
        switch (what) {
            case 0:
                return graph.pointCount;
            case 1:
                return graph.edgeCount;
            case 2:
                return fired;
            case 3:
                return found.size;
            case 4:
                return Long.bitCount(graph.erased);
            default:
                return NONE;
        }
    }

    private static boolean areEdgeValues(int weight, int signs) {
        return weight >= 0 && weight <= WEIGHT_LIMIT && signs >= 0 && signs <= SIGNS_LIMIT;
    }

    /** The member of a set of points that has so many lesser ones, or NONE. */
    private static int memberOf(int points, int lesserOnes) {
        int left = lesserOnes;
        for (int point = 0; point < POINT_LIMIT; point++) {
            if ((points >> point & 1) == 1) {
                if (left == 0) {
                    return point;
                }
                left--;
            }
        }
        return NONE;
    }

    private boolean isFired(int point) {
        return (fired >> point & 1) == 1;
    }

    /** False, and the pairing of before stays, if there is none. */
    private boolean findPairing() {
        ways.measure();
        if (!matcher.solve(fired)) {
            return false;
        }
        matcher.tellFirst(found);
        return true;
    }

    private boolean isPairBefore(int pair, int time) {
        return graph.isBefore(found.lesser[pair], time) && graph.isBefore(found.other[pair], time);
    }

    private void commitPair(int pair) {
        int lesser = found.lesser[pair];
        int other = found.other[pair];
        ways.trace(lesser, other);
        keptEdges ^= ways.trailAsSet();
        // A boundary is never fired, so taking it out too changes nothing.
        fired &= ~(1 << lesser | 1 << other);
    }

    /** The points and edges. */
    private static final class Graph {
        final int[] times = new int[POINT_LIMIT];
        final int[] oneEnd = new int[EDGE_LIMIT];
        final int[] otherEnd = new int[EDGE_LIMIT];
        final int[] weights = new int[EDGE_LIMIT];
        final int[] signSets = new int[EDGE_LIMIT];
        int pointCount = 0;
        int edgeCount = 0;
        int boundaries = 0;
        long erased = 0L;
        /** Grows with every change, so that measured ways can tell that they are old. */
        int version = 0;

        boolean hasPoint(int point) {
            return point >= 0 && point < pointCount;
        }

        boolean hasPoints(int points) {
            return points >>> pointCount == 0;
        }

        boolean isBoundary(int point) {
            return (boundaries >> point & 1) == 1;
        }

        /** A boundary has a time too, but only points that fired count. */
        boolean isBefore(int point, int time) {
            return isBoundary(point) || hasPoint(point) && times[point] < time;
        }

        int leastBoundary() {
            return memberOf(boundaries, 0);
        }

        boolean canJoin(int a, int b) {
            return hasPoint(a) && hasPoint(b) && a != b && !(isBoundary(a) && isBoundary(b));
        }

        boolean hasEdge(int edge) {
            return edge >= 0 && edge < edgeCount;
        }

        boolean hasEdges(long edges) {
            return edges >>> edgeCount == 0L;
        }

        boolean hasRoomFor(int edges) {
            return edgeCount + edges <= EDGE_LIMIT;
        }

        boolean isErased(int edge) {
            return (erased >> edge & 1L) == 1L;
        }

        int weightNow(int edge) {
            return (erased >> edge & 1L) == 1L ? 0 : weights[edge];
        }

        /** The end of an edge that is not this point; NONE if the edge doesn't end here. */
        int endBeyond(int edge, int point) {
            if (oneEnd[edge] == point) {
                return otherEnd[edge];
            }
            return otherEnd[edge] == point ? oneEnd[edge] : NONE;
        }

        int addPoint(boolean boundary, int time) {
            int point = pointCount;
            times[point] = time;
            if (boundary) {
                boundaries |= 1 << point;
            }
            pointCount++;
            version++;
            return point;
        }

        int addEdge(int a, int b, int weight, int signs) {
            int edge = edgeCount;
            oneEnd[edge] = a;
            otherEnd[edge] = b;
            weights[edge] = weight;
            signSets[edge] = signs;
            edgeCount++;
            version++;
            return edge;
        }

        void turnErased(int edge) {
            erased ^= 1L << edge;
            version++;
        }

        int oddSigns(long edges) {
            int odd = 0;
            for (int edge = 0; edge < edgeCount; edge++) {
                if ((edges >> edge & 1L) == 1L) {
                    odd ^= signSets[edge];
                }
            }
            return odd;
        }

        int oddPoints(long edges) {
            int odd = 0;
            for (int edge = 0; edge < edgeCount; edge++) {
                if ((edges >> edge & 1L) == 1L) {
                    odd ^= 1 << oneEnd[edge] ^ 1 << otherEnd[edge];
                }
            }
            return odd & ~boundaries;
        }
    }

    /** The lightest ways of a graph: their costs for all pairs of points, and one of them traced. */
    private static final class Ways {
        /** A cost is a weight times this plus a count of edges, so that one number orders both. */
        private static final long WEIGHT_STEP = 64L;
        /** Where there is no way: above the cost of any two ways of twenty points together. */
        private static final long FAR = 1000000000000L;

        private final Graph graph;
        private final long[] costs = new long[POINT_LIMIT * POINT_LIMIT];
        private final int[] trail = new int[POINT_LIMIT];
        private int measuredVersion = NONE;
        int trailLength = 0;

        Ways(Graph graph) {
            this.graph = graph;
        }

        /** Must come ahead of every question about ways; costs nothing if the graph is as before. */
        void measure() {
            if (measuredVersion == graph.version) {
                return;
            }
            clearCosts();
            for (int edge = 0; edge < graph.edgeCount; edge++) {
                int a = graph.oneEnd[edge];
                int b = graph.otherEnd[edge];
                lower(a, b, edgeCost(edge));
                lower(b, a, edgeCost(edge));
            }
            for (int middle = 0; middle < graph.pointCount; middle++) {
                // No way leads over a boundary, so only inner points join two ways.
                if (!graph.isBoundary(middle)) {
                    joinWaysAt(middle);
                }
            }
            measuredVersion = graph.version;
        }

        boolean isThere(int a, int b) {
            return costs[at(a, b)] != FAR;
        }

        /** Only where there is a way. */
        int weightBetween(int a, int b) {
            return (int) (costs[at(a, b)] / WEIGHT_STEP);
        }

        /** Lays the lightest way's edges down in the trail, from the lesser point on. */
        void trace(int a, int b) {
            int here = Math.min(a, b);
            int goal = Math.max(a, b);
            trailLength = 0;
            while (here != goal && trailLength < POINT_LIMIT) {
                int edge = firstEdgeTowards(here, goal);
                if (edge == NONE) {
                    return;
                }
                trail[trailLength] = edge;
                trailLength++;
                here = graph.endBeyond(edge, here);
            }
        }

        int trailEdge(int i, boolean fromEnd) {
            if (i < 0 || i >= trailLength) {
                return NONE;
            }
            return fromEnd ? trail[trailLength - 1 - i] : trail[i];
        }

        long trailAsSet() {
            long edges = 0L;
            for (int i = 0; i < trailLength; i++) {
                edges |= 1L << trail[i];
            }
            return edges;
        }

        private static int at(int a, int b) {
            return a * POINT_LIMIT + b;
        }

        private long edgeCost(int edge) {
            return graph.weightNow(edge) * WEIGHT_STEP + 1L;
        }

        private void clearCosts() {
            for (int a = 0; a < graph.pointCount; a++) {
                for (int b = 0; b < graph.pointCount; b++) {
                    costs[at(a, b)] = a == b ? 0L : FAR;
                }
            }
        }

        private void lower(int a, int b, long cost) {
            if (cost < costs[at(a, b)]) {
                costs[at(a, b)] = cost;
            }
        }

        private void joinWaysAt(int middle) {
            for (int a = 0; a < graph.pointCount; a++) {
                long toMiddle = costs[at(a, middle)];
                if (toMiddle == FAR) {
                    continue;
                }
                for (int b = 0; b < graph.pointCount; b++) {
                    long onwards = costs[at(middle, b)];
                    if (onwards != FAR) {
                        lower(a, b, toMiddle + onwards);
                    }
                }
            }
        }

        /** The least edge with which a lightest way from here to the goal can begin, or NONE. */
        private int firstEdgeTowards(int here, int goal) {
            for (int edge = 0; edge < graph.edgeCount; edge++) {
                int next = graph.endBeyond(edge, here);
                if (next != NONE && (next == goal || !graph.isBoundary(next))
                        && costs[at(next, goal)] == costs[at(here, goal)] - edgeCost(edge)) {
                    return edge;
                }
            }
            return NONE;
        }
    }

    /** The pairing that was found last. */
    private static final class Pairing {
        final int[] lesser = new int[FIRED_LIMIT];
        final int[] other = new int[FIRED_LIMIT];
        int size = 0;
        int weight = 0;
        int leastCount = 0;
        long oddEdges = 0L;

        void begin(int newWeight, int newLeastCount) {
            size = 0;
            weight = newWeight;
            leastCount = newLeastCount;
            oddEdges = 0L;
        }

        void addPair(int lesserPoint, int otherPoint, long wayEdges) {
            if (size >= FIRED_LIMIT) {
                return;
            }
            lesser[size] = lesserPoint;
            other[size] = otherPoint;
            size++;
            oddEdges ^= wayEdges;
        }
    }

    /** Finds least pairings: a group is a set of places in the row of points that fired. */
    private static final class Matcher {
        /** Where there is no pairing: above the weight of any. */
        private static final int FAR = 1000000000;

        private final Graph graph;
        private final Ways ways;
        private final int[] row = new int[FIRED_LIMIT];
        private final int[] nearest = new int[FIRED_LIMIT];
        private final int[] pairWeights = new int[FIRED_LIMIT * FIRED_LIMIT];
        private final int[] leastWeights = new int[1 << FIRED_LIMIT];
        private final int[] leastCounts = new int[1 << FIRED_LIMIT];
        private int rowLength = 0;

        Matcher(Graph graph, Ways ways) {
            this.graph = graph;
            this.ways = ways;
        }

        /** False if there is no pairing. The ways must have been measured. */
        boolean solve(int fired) {
            layRow(fired);
            weighPairs();
            leastWeights[0] = 0;
            leastCounts[0] = 1;
            int whole = wholeGroup();
            for (int group = 1; group <= whole; group++) {
                solveGroup(group);
            }
            return leastWeights[whole] != FAR;
        }

        /** Only after solve() told that there is a pairing. */
        void tellFirst(Pairing pairing) {
            int group = wholeGroup();
            pairing.begin(leastWeights[group], leastCounts[group]);
            for (int place = 0; place < rowLength; place++) {
                if ((group >> place & 1) == 1) {
                    int partner = firstPartner(group, place);
                    int other = pointOf(place, partner);
                    ways.trace(row[place], other);
                    pairing.addPair(row[place], other, ways.trailAsSet());
                    group = without(group, place, partner);
                }
            }
        }

        private int wholeGroup() {
            return (1 << rowLength) - 1;
        }

        private void layRow(int fired) {
            rowLength = 0;
            for (int point = 0; point < graph.pointCount && rowLength < FIRED_LIMIT; point++) {
                if ((fired >> point & 1) == 1) {
                    row[rowLength] = point;
                    nearest[rowLength] = nearestBoundary(point);
                    rowLength++;
                }
            }
        }

        /** By weight alone, then by number: how many edges lead there does not count. */
        private int nearestBoundary(int point) {
            int best = NONE;
            for (int other = 0; other < graph.pointCount; other++) {
                if (graph.isBoundary(other) && ways.isThere(point, other) && (best == NONE
                        || ways.weightBetween(point, other) < ways.weightBetween(point, best))) {
                    best = other;
                }
            }
            return best;
        }

        private void weighPairs() {
            for (int place = 0; place < rowLength; place++) {
                for (int partner = place; partner < rowLength; partner++) {
                    int other = pointOf(place, partner);
                    pairWeights[place * FIRED_LIMIT + partner] =
                            other != NONE && ways.isThere(row[place], other)
                            ? ways.weightBetween(row[place], other) : FAR;
                }
            }
        }

        private void solveGroup(int group) {
            int place = leastPlace(group);
            leastWeights[group] = FAR;
            leastCounts[group] = 0;
            for (int partner = place; partner < rowLength; partner++) {
                if ((group >> partner & 1) == 1) {
                    weighIn(group, weightWith(group, place, partner),
                            leastCounts[without(group, place, partner)]);
                }
            }
        }

        private void weighIn(int group, int weight, int count) {
            if (weight < leastWeights[group]) {
                leastWeights[group] = weight;
                leastCounts[group] = count;
            } else if (weight == leastWeights[group] && weight != FAR) {
                leastCounts[group] += count;
            }
        }

        private int leastPlace(int group) {
            int place = 0;
            while (place < rowLength - 1 && (group >> place & 1) == 0) {
                place++;
            }
            return place;
        }

        /** The least place whose point completes a least pairing; a boundary comes last. */
        private int firstPartner(int group, int place) {
            for (int partner = place + 1; partner < rowLength; partner++) {
                if ((group >> partner & 1) == 1
                        && weightWith(group, place, partner) == leastWeights[group]) {
                    return partner;
                }
            }
            return place;
        }

        /** A place that is its own partner stands for a pair with the nearest boundary. */
        private int pointOf(int place, int partner) {
            return partner == place ? nearest[place] : row[partner];
        }

        private static int without(int group, int place, int partner) {
            return group & ~(1 << place | 1 << partner);
        }

        /** The least weight of a group in which these two are a pair, or FAR. */
        private int weightWith(int group, int place, int partner) {
            int weight = pairWeights[place * FIRED_LIMIT + partner];
            int rest = leastWeights[without(group, place, partner)];
            return weight == FAR || rest == FAR ? FAR : weight + rest;
        }
    }
}
