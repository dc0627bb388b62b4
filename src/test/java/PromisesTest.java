/** Each promise of the document: ordinary inputs, the edges that it names, wrong inputs. */
public final class PromisesTest {
    private static final int LOW = Integer.MIN_VALUE;
    private static final int HIGH = Integer.MAX_VALUE;
    /** What decodeOf and commitOf answer for an ArithmeticException. */
    private static final long THROWN = -99L;
    private static int wrong = 0;

    private static void due(String what, long got, long want) {
        if (got != want) {
            wrong++;
            System.out.println(what + " answered " + got + ", due is " + want);
        }
    }

    private static void due(String what, boolean got, boolean want) {
        due(what, got ? 1L : 0L, want ? 1L : 0L);
    }

    private static long decodeOf(PairDecoder x) {
        try {
            return x.decode();
        } catch (ArithmeticException e) {
            return THROWN;
        }
    }

    private static long commitOf(PairDecoder x, int time) {
        try {
            return x.commit(time);
        } catch (ArithmeticException e) {
            return THROWN;
        }
    }

    /** Inner points of TIME 0 (i), 1 (j), .. 9, and boundaries (B). */
    private static PairDecoder withPoints(String kinds) {
        PairDecoder x = new PairDecoder();
        for (int i = 0; i < kinds.length(); i++) {
            char kind = kinds.charAt(i);
            x.point(kind == 'B', kind == 'B' ? 9 : kind - 'i');
        }
        return x;
    }

    private static void fireAll(PairDecoder x, int... points) {
        for (int point : points) {
            due("fire " + point, x.fire(point, true), true);
        }
    }

    private static void dueTotals(String when, PairDecoder x, int... wants) {
        for (int what = 0; what < wants.length; what++) {
            due(when + ": total " + what, x.total(what), wants[what]);
        }
    }

    private static void dueWay(String what, PairDecoder x, int a, int b, int weight, int... edges) {
        due(what + ": weight", x.way(a, b, 0), weight);
        due(what + ": back's weight", x.way(b, a, 0), weight);
        due(what + ": edges", x.way(a, b, 1), edges.length);
        due(what + ": back's edges", x.way(b, a, 1), edges.length);
        for (int i = 0; i < edges.length; i++) {
            due(what + ": edge " + i, x.way(a, b, 2 + i), edges[i]);
            due(what + ": back's edge " + i, x.way(b, a, 2 + i), edges[edges.length - 1 - i]);
        }
        due(what + ": beyond the last", x.way(a, b, 2 + edges.length), -1);
        due(what + ": back, beyond the last", x.way(b, a, 2 + edges.length), -1);
    }

    private static void dueNoWay(String what, PairDecoder x, int a, int b) {
        for (int w = 0; w < 4; w++) {
            due(what + ": " + w, x.way(a, b, w), -1);
            due(what + ": back " + w, x.way(b, a, w), -1);
        }
    }

    private static void duePairs(String what, PairDecoder x, int... points) {
        due(what + ": pairs", x.total(3), points.length / 2);
        for (int i = 0; i < points.length; i++) {
            due(what + ": pair " + i / 2 + " side " + i % 2, x.pair(i / 2, i % 2), points[i]);
        }
        due(what + ": beyond the last", x.pair(points.length / 2, 0), -1);
    }

    private static void newObject() {
        PairDecoder x = new PairDecoder();
        dueTotals("new", x, 0, 0, 0, 0, 0);
        due("new: least", x.least(), 0);
        due("new: fix", x.fix(), 0);
        due("new: kept", x.kept(), 0);
        due("new: pair", x.pair(0, 0), -1);
        due("new: way", x.way(0, 1, 0), -1);
        due("new: fire", x.fire(0, true), false);
        due("new: erase", x.erase(0, true), false);
        due("new: edge", x.edge(0, 1, 0, 0), -1);
        due("new: fault", x.fault(7, 0, 0), -1);
        PairDecoder y = new PairDecoder();
        x.point(false, 0);
        dueTotals("another object", y, 0, 0, 0, 0, 0);
    }

    private static void point() {
        PairDecoder x = new PairDecoder();
        int[] noTimes = {-1, 10, 11, LOW, HIGH};
        for (int time : noTimes) {
            due("point of time " + time, x.point(false, time), -1);
            due("boundary of time " + time, x.point(true, time), -1);
        }
        for (int i = 0; i < 20; i++) {
            due("point " + i, x.point(i % 3 == 0, i % 10), i);
            due("points", x.total(0), i + 1);
        }
        due("point 20", x.point(false, 0), -1);
        due("boundary 20", x.point(true, 0), -1);
        due("points", x.total(0), 20);
    }

    private static void edge() {
        PairDecoder x = withPoints("iiBB");
        int[][] cannot = {{0, 0, 1, 1}, {2, 2, 1, 1}, {2, 3, 1, 1}, {3, 2, 1, 1}, {0, 4, 1, 1}, {4, 0, 1, 1},
            {-1, 0, 1, 1}, {0, -1, 1, 1}, {LOW, HIGH, 1, 1}, {HIGH, LOW, 1, 1}, {32, 33, 1, 1}, {0, 1, -1, 1},
            {0, 1, 1000001, 1}, {0, 1, LOW, 1}, {0, 1, HIGH, 1}, {0, 1, 1, -1}, {0, 1, 1, 256}, {0, 1, 1, LOW},
            {0, 1, 1, HIGH}};
        for (int[] e : cannot) {
            due("edge " + e[0] + " " + e[1] + " " + e[2] + " " + e[3], x.edge(e[0], e[1], e[2], e[3]), -1);
        }
        due("no edges", x.total(1), 0);
        due("edge of weight 0", x.edge(0, 1, 0, 0), 0);
        due("edge of weight 1000000", x.edge(1, 0, 1000000, 255), 1);
        due("edge to a boundary", x.edge(0, 2, 1, 1), 2);
        due("edge from a boundary", x.edge(3, 1, 1, 1), 3);
        for (int i = 4; i < 60; i++) {
            due("edge " + i, x.edge(0, 1, 5, 1), i);
        }
        due("edge 60", x.edge(0, 1, 5, 1), -1);
        due("edges", x.total(1), 60);
    }

    private static void fault() {
        PairDecoder x = withPoints("iiiiBBi");
        due("of four", x.fault(0b1111, 7, 3), 0);
        due("of four: edges", x.total(1), 2);
        dueWay("first edge of four", x, 0, 1, 7, 0);
        dueWay("second edge of four", x, 2, 3, 0, 1);
        due("first edge's signs", x.signs(1), 3);
        due("second edge's signs", x.signs(2), 0);
        due("of three", x.fault(0b1001010, 6, 255), 2);
        due("of three: first ends", x.syndrome(4), 0b1010);
        dueWay("of three: second", x, 6, 4, 0, 3);
        due("with a boundary first or second", x.fault(0b1011000, 1000000, 0), 4);
        due("its first ends", x.syndrome(16), 0b1000);
        due("its second ends", x.syndrome(32), 0b1000000);
        due("of four with a boundary last", x.fault(0b0010111, 0, 0), 6);
        due("its second ends", x.syndrome(128), 0b100);
        int[] noSets = {0, 1, 3, 0b1001, 0b11111, 0b10000011, 0b10000111, -1, LOW, LOW + 3, LOW + 7, HIGH,
            0b0110001, 0b0010011, 0b0110011, 0b1110000};
        for (int set : noSets) {
            due("fault of set " + set, x.fault(set, 1, 1), -1);
        }
        due("weight -1", x.fault(7, -1, 1), -1);
        due("weight 1000001", x.fault(7, 1000001, 1), -1);
        due("signs -1", x.fault(7, 1, -1), -1);
        due("signs 256", x.fault(7, 1, 256), -1);
        due("nothing has changed", x.total(1), 8);
        PairDecoder none = withPoints("iiii");
        due("of three, no boundary", none.fault(7, 1, 1), -1);
        due("of three, no boundary: edges", none.total(1), 0);
        due("of four, no boundary", none.fault(15, 1, 1), 0);
    }

    private static void faultAtTheLimit() {
        PairDecoder x = withPoints("iiiiB");
        for (int i = 0; i < 58; i++) {
            x.edge(0, 1, 5, 1);
        }
        due("fault as edges 58 and 59", x.fault(7, 1, 1), 58);
        due("fault at 60", x.fault(15, 1, 1), -1);
        PairDecoder y = withPoints("iiiiB");
        for (int i = 0; i < 59; i++) {
            y.edge(0, 1, 5, 1);
        }
        due("fault of three with room for one", y.fault(7, 1, 1), -1);
        due("fault of four with room for one", y.fault(15, 1, 1), -1);
        due("edges", y.total(1), 59);
        due("the last edge", y.edge(0, 1, 1, 1), 59);
    }

    private static void fire() {
        PairDecoder x = withPoints("Biiiiiiiiiiii");
        int[] none = {0, 13, 20, 32, 33, -1, -31, LOW, HIGH};
        for (int point : none) {
            due("fire " + point, x.fire(point, true), false);
            due("unfire " + point, x.fire(point, false), false);
        }
        due("unfire one that is not", x.fire(1, false), false);
        for (int point = 1; point <= 10; point++) {
            due("fire " + point, x.fire(point, true), true);
            due("fire again " + point, x.fire(point, true), false);
        }
        due("fire the 11th", x.fire(11, true), false);
        due("fired", x.total(2), 0b11111111110);
        due("unfire another at 10", x.fire(11, false), false);
        due("unfire at 10", x.fire(4, false), true);
        due("unfire again", x.fire(4, false), false);
        due("fired", x.total(2), 0b11111101110);
        due("fire another", x.fire(11, true), true);
        due("fired", x.total(2), 0b111111101110);
    }

    private static void erase() {
        PairDecoder x = withPoints("iiB");
        x.edge(0, 1, 5, 1);
        x.edge(0, 2, 7, 1);
        int[] none = {2, 60, 64, 65, -1, -64, LOW, HIGH};
        for (int edge : none) {
            due("erase " + edge, x.erase(edge, true), false);
            due("unerase " + edge, x.erase(edge, false), false);
        }
        due("unerase one that is not", x.erase(0, false), false);
        due("erase", x.erase(0, true), true);
        due("erase again", x.erase(0, true), false);
        due("how many", x.total(4), 1);
        dueWay("erased", x, 0, 1, 0, 0);
        due("erase the other", x.erase(1, true), true);
        dueWay("both erased", x, 1, 2, 0, 0, 1);
        due("how many", x.total(4), 2);
        due("unerase", x.erase(0, false), true);
        due("unerase again", x.erase(0, false), false);
        dueWay("its weight is back", x, 0, 1, 5, 0);
        due("how many", x.total(4), 1);
        for (int edge = 2; edge < 60; edge++) {
            x.edge(0, 1, 9, 0);
            due("erase " + edge, x.erase(edge, true), true);
        }
        due("how many", x.total(4), 59);
        due("erase 60", x.erase(60, true), false);
    }

    private static void way() {
        PairDecoder x = withPoints("iiii");
        x.edge(1, 2, 2, 0);
        x.edge(2, 3, 1, 0);
        x.edge(0, 2, 3, 0);
        x.edge(0, 1, 1, 0);
        dueWay("of equal weight, the fewest edges", x, 0, 2, 3, 2);
        dueWay("of equal weight, the fewest edges, longer", x, 0, 3, 4, 2, 1);
        x.edge(1, 3, 3, 0);
        dueWay("of equal count, the first", x, 0, 3, 4, 2, 1);
        dueWay("of equal weight, the fewest", x, 1, 3, 3, 4);
        x.edge(0, 3, 5, 0);
        dueWay("a heavier single edge", x, 0, 3, 4, 2, 1);
        due("what -1", x.way(0, 3, -1), -1);
        due("what low", x.way(0, 3, LOW), -1);
        due("what high", x.way(0, 3, HIGH), -1);
        due("what low from behind", x.way(3, 0, LOW + 1), -1);
        dueNoWay("the same point", x, 2, 2);
        int[] none = {4, -1, 20, 21, LOW, HIGH};
        for (int point : none) {
            dueNoWay("no such point", x, 0, point);
            dueNoWay("no such points", x, point, point);
        }
        x.point(false, 0);
        dueNoWay("a lonely point", x, 0, 4);
    }

    private static void wayIsFirstFromTheLesserPoint() {
        PairDecoder x = withPoints("iiii");
        x.edge(1, 3, 1, 0);
        x.edge(0, 2, 1, 0);
        x.edge(0, 1, 1, 0);
        x.edge(2, 3, 1, 0);
        // From 3 on, 0 2 would come ahead of 3 1.
        dueWay("from 0 on", x, 0, 3, 2, 1, 3);
        x.edge(0, 2, 1, 0);
        dueWay("of edges side by side, the least", x, 0, 2, 1, 1);
        x.edge(0, 2, 0, 0);
        dueWay("of edges side by side, the lightest", x, 0, 2, 0, 5);
    }

    private static void wayAndBoundaries() {
        PairDecoder x = withPoints("iBiB");
        x.edge(0, 1, 1, 0);
        x.edge(1, 2, 1, 0);
        dueNoWay("over a boundary", x, 0, 2);
        dueWay("to a boundary", x, 1, 2, 1, 1);
        x.edge(2, 3, 4, 0);
        dueWay("between boundaries", x, 1, 3, 5, 1, 2);
        dueNoWay("over one to another", x, 0, 3);
        x.edge(0, 2, 9, 0);
        dueWay("round a boundary", x, 0, 2, 9, 3);
        dueWay("to a boundary directly", x, 0, 1, 1, 0);
        x.erase(3, true);
        // The least first edge leads over the other boundary, at the same weight and count.
        PairDecoder y = withPoints("iBii");
        y.edge(0, 1, 1, 0);
        y.edge(1, 3, 1, 0);
        y.edge(0, 2, 1, 0);
        y.edge(2, 3, 1, 0);
        dueWay("equal, but not over a boundary", y, 0, 3, 2, 2, 3);
    }

    private static void longWay() {
        PairDecoder x = withPoints("iiiiiiiiiiiiiiiiiiii");
        for (int i = 0; i < 19; i++) {
            x.edge(i, i + 1, 1000000, 0);
        }
        due("the longest way's weight", x.way(0, 19, 0), 19000000);
        due("the longest way's edges", x.way(19, 0, 1), 19);
        due("its first edge from behind", x.way(19, 0, 2), 18);
        due("its last edge", x.way(0, 19, 20), 18);
        due("beyond", x.way(0, 19, 21), -1);
        fireAll(x, 0, 19);
        due("the heaviest pair", decodeOf(x), 19000000);
        due("its fix", x.fix(), (1L << 19) - 1);
    }

    private static void decode() {
        PairDecoder x = withPoints("iiiB");
        due("none fired", decodeOf(x), 0);
        due("none fired: least", x.least(), 1);
        duePairs("none fired", x);
        x.edge(0, 1, 4, 0);
        x.edge(1, 2, 1, 0);
        fireAll(x, 0);
        due("one alone", decodeOf(x), THROWN);
        fireAll(x, 1);
        due("two", decodeOf(x), 4);
        fireAll(x, 2);
        due("three, no boundary to be reached", decodeOf(x), THROWN);
        duePairs("the pairing of before stays", x, 0, 1);
        due("the fix of before stays", x.fix(), 1);
        due("the count of before stays", x.least(), 1);
        x.edge(0, 3, 1, 0);
        due("three, with a boundary", decodeOf(x), 2);
        duePairs("three", x, 0, 3, 1, 2);
        x.erase(0, true);
        due("with one erased", decodeOf(x), 2);
        due("equal ones", x.least(), 3);
        duePairs("with one erased", x, 0, 1, 2, 3);
        x.fire(0, false);
        x.fire(1, false);
        x.fire(2, false);
        due("none fired any more", decodeOf(x), 0);
        duePairs("none fired any more", x);
        due("no fix any more", x.fix(), 0);
    }

    private static void nearestBoundary() {
        PairDecoder x = withPoints("iiBBB");
        x.edge(0, 1, 0, 0);
        x.edge(1, 2, 3, 0);
        x.edge(0, 3, 3, 0);
        x.edge(0, 4, 4, 0);
        fireAll(x, 0);
        due("equal boundaries", decodeOf(x), 3);
        duePairs("the least number, though more edges", x, 0, 2);
        due("equal boundaries count once", x.least(), 1);
        due("its fix", x.fix(), 3);
        x.erase(3, true);
        due("an erased edge to a boundary", decodeOf(x), 0);
        duePairs("the lightest boundary", x, 0, 4);
        due("its fix", x.fix(), 8);
    }

    private static void firstPairing() {
        PairDecoder x = withPoints("Biiii");
        for (int a = 1; a <= 4; a++) {
            for (int b = a + 1; b <= 4; b++) {
                x.edge(a, b, 2, 0);
            }
            x.edge(a, 0, 1, 0);
        }
        fireAll(x, 4, 2, 1, 3);
        due("all equal", decodeOf(x), 4);
        due("all equal: least", x.least(), 10);
        duePairs("boundaries come last", x, 1, 2, 3, 4);
        due("its fix", x.fix(), 1L << 0 | 1L << 7);
        due("side 2", x.pair(0, 2), -1);
        due("side -1", x.pair(0, -1), -1);
        due("side high", x.pair(0, HIGH), -1);
        due("pair -1", x.pair(-1, 0), -1);
        due("pair low", x.pair(LOW, 0), -1);
        due("pair high", x.pair(HIGH, 1), -1);
        x.fire(1, false);
        due("three of them", decodeOf(x), 3);
        due("three of them: least", x.least(), 4);
        duePairs("the last one has the boundary", x, 2, 3, 4, 0);
    }

    private static void tenFired() {
        PairDecoder x = withPoints("iiiiiiiiiiB");
        for (int i = 0; i < 9; i++) {
            x.edge(i, i + 1, 0, 0);
        }
        x.edge(9, 10, 0, 0);
        fireAll(x, 0, 1, 2, 3, 4, 5, 6, 7, 8, 9);
        due("ten at weight 0", decodeOf(x), 0);
        due("all ways to pair ten", x.least(), 9496);
        duePairs("ten", x, 0, 1, 2, 3, 4, 5, 6, 7, 8, 9);
        due("ten: fix", x.fix(), 0b101010101);
        PairDecoder y = withPoints("iiiiiiiiiiB");
        for (int i = 0; i < 10; i++) {
            y.edge(i, 10, 1000000, 0);
        }
        fireAll(y, 0, 1, 2, 3, 4, 5, 6, 7, 8, 9);
        due("ten to the boundary", decodeOf(y), 10000000);
        duePairs("ten to the boundary", y, 0, 10, 1, 10, 2, 10, 3, 10, 4, 10, 5, 10, 6, 10, 7, 10, 8, 10, 9, 10);
        due("ten to the boundary: fix", y.fix(), 1023);
    }

    private static void fix() {
        PairDecoder x = withPoints("iiiB");
        x.edge(0, 1, 1, 1);
        x.edge(1, 2, 1, 2);
        x.edge(2, 3, 0, 4);
        fireAll(x, 1, 2);
        due("one pair", decodeOf(x), 1);
        due("equal ones", x.least(), 2);
        due("one pair: fix", x.fix(), 2);
        x.fire(2, false);
        fireAll(x, 0);
        x.erase(1, true);
        due("0 and 1", decodeOf(x), 1);
        x.edge(0, 2, 0, 0);
        due("the fix of then", x.fix(), 1);
        x.erase(1, false);
        due("the fix of then again", x.fix(), 1);
    }

    /** Pairs 0 with 1 and 2 with 3, both over edge 1 of weight 0; the first two have lesser TIMES. */
    private static PairDecoder withCommonEdge() {
        PairDecoder x = withPoints("iijjii");
        x.edge(0, 4, 1, 0);
        x.edge(4, 5, 0, 0);
        x.edge(5, 1, 1, 0);
        x.edge(2, 4, 1, 0);
        x.edge(5, 3, 1, 0);
        fireAll(x, 0, 1, 2, 3);
        return x;
    }

    private static void fixOfCommonEdges() {
        PairDecoder x = withCommonEdge();
        due("an edge in common", decodeOf(x), 4);
        due("an edge in common: least", x.least(), 3);
        duePairs("an edge in common", x, 0, 1, 2, 3);
        due("an edge in common: fix", x.fix(), 0b11101);
        PairDecoder y = withPoints("iiBi");
        y.edge(0, 3, 10, 0);
        y.edge(3, 2, 0, 0);
        y.edge(1, 3, 10, 0);
        fireAll(y, 0, 1);
        due("pair or boundaries", decodeOf(y), 20);
        due("pair or boundaries: least", y.least(), 2);
        due("pair or boundaries: fix", y.fix(), 5);
        fireAll(y, 3);
        due("three", decodeOf(y), 20);
        duePairs("three", y, 0, 1, 3, 2);
        due("three: fix", y.fix(), 7);
        y.edge(0, 2, 9, 0);
        y.fire(3, false);
        due("boundaries alone", decodeOf(y), 19);
        duePairs("boundaries alone", y, 0, 2, 1, 2);
        due("boundaries alone: fix", y.fix(), 0b1110);
    }

    private static void signsAndSyndrome() {
        PairDecoder x = withPoints("iiBi");
        due("no edges: signs", x.signs(0), 0);
        due("no edges: syndrome", x.syndrome(0), 0);
        due("no edges: signs of 1", x.signs(1), -1);
        due("no edges: syndrome of 1", x.syndrome(1), -1);
        x.edge(0, 1, 1, 0b10000011);
        x.edge(1, 2, 1, 0b110);
        x.edge(2, 0, 1, 0b1);
        x.edge(3, 0, 1, 0);
        due("signs of one", x.signs(1), 131);
        due("signs of two", x.signs(3), 0b10000101);
        due("signs of three", x.signs(7), 0b10000100);
        due("signs of all", x.signs(15), 0b10000100);
        due("syndrome of one", x.syndrome(1), 3);
        due("syndrome at a boundary", x.syndrome(2), 2);
        due("syndrome of two", x.syndrome(3), 1);
        due("syndrome of a ring", x.syndrome(7), 0);
        due("syndrome of all", x.syndrome(15), 9);
        long[] none = {16L, 31L, 1L << 32, 1L << 60, 1L << 63, -1L, Long.MIN_VALUE, Long.MAX_VALUE};
        for (long set : none) {
            due("signs of " + set, x.signs(set), -1);
            due("syndrome of " + set, x.syndrome(set), -1);
        }
        for (int i = 4; i < 60; i++) {
            x.edge(0, 1, 1, 128);
        }
        due("signs of sixty", x.signs((1L << 60) - 1), 0b10000100);
        due("signs of the last", x.signs(1L << 59), 128);
        due("syndrome of the last", x.syndrome(1L << 59), 3);
        due("signs of a 61st", x.signs(1L << 60), -1);
        due("syndrome of a 61st", x.syndrome(-1L), -1);
    }

    private static void commit() {
        PairDecoder x = withPoints("ijklBB");
        x.edge(0, 1, 1, 0);
        x.edge(2, 3, 1, 0);
        x.edge(1, 2, 9, 0);
        fireAll(x, 0, 1, 2, 3);
        int[] noTimes = {-1, 11, LOW, HIGH};
        for (int time : noTimes) {
            due("commit " + time, commitOf(x, time), -1);
            due("commit " + time + " finds nothing", x.least(), 0);
        }
        due("commit 0", commitOf(x, 0), 0);
        duePairs("commit finds the pairing", x, 0, 1, 2, 3);
        due("commit 1: not both points", commitOf(x, 1), 0);
        due("commit 2", commitOf(x, 2), 2);
        due("still fired", x.total(2), 12);
        due("kept", x.kept(), 1);
        duePairs("the pairing that was found", x, 0, 1, 2, 3);
        due("the fix that was found", x.fix(), 3);
        due("the count that was found", x.least(), 1);
        due("commit 3", commitOf(x, 3), 0);
        duePairs("the pairing that was found then", x, 2, 3);
        due("commit 10", commitOf(x, 10), 2);
        due("kept", x.kept(), 3);
        fireAll(x, 0, 1);
        due("commit once more", commitOf(x, 10), 2);
        due("what was kept goes", x.kept(), 2);
        fireAll(x, 0);
        due("no pairing", commitOf(x, 10), THROWN);
        due("no pairing, but no such time either", commitOf(x, 11), -1);
        due("no pairing: kept", x.kept(), 2);
        due("no pairing: fired", x.total(2), 1);
        duePairs("no pairing: that of before", x, 0, 1);
        due("no pairing: fix", x.fix(), 1);
    }

    private static void commitAtBoundaries() {
        PairDecoder x = withPoints("ijB");
        x.edge(0, 2, 1, 0);
        x.edge(1, 0, 3, 0);
        fireAll(x, 1);
        due("a boundary's time counts not: too early", commitOf(x, 1), 0);
        due("a boundary's time counts not", commitOf(x, 2), 1);
        due("both edges kept", x.kept(), 3);
        due("none fired", x.total(2), 0);
        fireAll(x, 0);
        due("the nearer one", commitOf(x, 9), 1);
        due("edge 0 goes", x.kept(), 2);
        due("none fired at all", commitOf(x, 10), 0);
        due("none fired at all: least", x.least(), 1);
        duePairs("none fired at all", x);
        PairDecoder y = new PairDecoder();
        y.point(false, 9);
        y.point(true, 0);
        y.edge(0, 1, 1, 0);
        fireAll(y, 0);
        due("time 9 is not before 9", commitOf(y, 9), 0);
        due("time 9 is before 10", commitOf(y, 10), 1);
        due("kept", y.kept(), 1);
    }

    private static void commitOfCommonEdges() {
        PairDecoder x = withCommonEdge();
        due("the early pair", commitOf(x, 1), 2);
        due("the early pair's way", x.kept(), 0b00111);
        due("the fix of both", x.fix(), 0b11101);
        due("the late pair", commitOf(x, 2), 2);
        due("the edge in common goes", x.kept(), 0b11101);
        PairDecoder y = withCommonEdge();
        due("both pairs at once", commitOf(y, 2), 4);
        due("both ways at once", y.kept(), 0b11101);
        PairDecoder z = withPoints("ijiB");
        z.edge(0, 3, 5, 0);
        z.edge(0, 1, 1, 0);
        z.edge(0, 2, 1, 0);
        fireAll(z, 0, 1, 2);
        due("pairs of two times", decodeOf(z), 7);
        duePairs("pairs of two times", z, 0, 1, 2, 3);
        due("their fix", z.fix(), 7);
        due("only the early pair, that is not the first", commitOf(z, 1), 1);
        due("the early pair's edges", z.kept(), 5);
        due("the others still fired", z.total(2), 3);
    }

    private static void total() {
        PairDecoder x = withPoints("iiB");
        x.edge(0, 1, 1, 0);
        x.edge(1, 2, 1, 0);
        x.erase(1, true);
        fireAll(x, 0, 1);
        dueTotals("ahead of a pairing", x, 3, 2, 3, 0, 1);
        decodeOf(x);
        dueTotals("with a pairing", x, 3, 2, 3, 1, 1);
        int[] none = {-1, 5, LOW, HIGH};
        for (int what : none) {
            due("total " + what, x.total(what), -1);
        }
    }

    public static void main(String[] args) {
        newObject();
        point();
        edge();
        fault();
        faultAtTheLimit();
        fire();
        erase();
        way();
        wayIsFirstFromTheLesserPoint();
        wayAndBoundaries();
        longWay();
        decode();
        nearestBoundary();
        firstPairing();
        tenFired();
        fix();
        fixOfCommonEdges();
        signsAndSyndrome();
        commit();
        commitAtBoundaries();
        commitOfCommonEdges();
        total();
        System.out.println(wrong == 0 ? "all promises hold" : wrong + " answers are not as due");
        if (wrong != 0) {
            System.exit(1);
        }
    }
}
