/** Each sentence of the promises, at its edges: too small, too large, empty, full, wrapped round, refused. */
public final class PromiseSentencesTest {
    private static final String THROWN = "throws.ArithmeticException";
    private static final Sentences SENTENCES = new Sentences();

    private static void of(int promise, String quote) {
        SENTENCES.of("Promise " + promise, quote);
    }

    private static Run object() {
        return SENTENCES.object();
    }

    private static Run object(String kinds) {
        return SENTENCES.object(kinds);
    }

    /** Points 0, 1 and 2 at TIMES 0, 1 and 2, boundary 3; 0 - 1 and 2 - 3 found as pairs, of WEIGHT 2 and 3. */
    private static Run withPairing() {
        Run run = object("012B").calls("edge(0, 1, 2, 1) = 0; edge(2, 3, 3, 2) = 1; edge(1, 2, 9, 4) = 2");
        return run.each(0, 3, "fire(#, true) = true").calls("decode() = 5").pairs(0, 1, 2, 3);
    }

    private static void newObject() {
        of(1, "No POINTS.");
        Run empty = object().calls("total(0) = 0; total(1) = 0; total(2) = 0; total(3) = 0; total(4) = 0");
        empty.calls("kept() = 0; least() = 0; fix() = 0; pair(0, 0) = NONE; pair(0, 1) = NONE");
        empty.refused("way(0, 1, 0) = NONE; way(0, 0, 0) = NONE; edge(0, 1, 0, 0) = NONE; edge(0, 0, 0, 0) = NONE; "
                + "fault(7, 0, 0) = NONE; fault(0, 0, 0) = NONE; fire(0, true) = false; fire(0, false) = false; "
                + "erase(0, true) = false; erase(0, false) = false");
        empty.calls("signs(0) = 0; signs(1) = NONE; syndrome(0) = 0; syndrome(1) = NONE; decode() = 0; "
                + "commit(10) = 0");
        Run one = object("0");
        object().calls("total(0) = 0; fire(0, true) = false");
        one.calls("fire(0, true) = true; total(0) = 1");
    }

    private static void point() {
        of(2, "A POINT comes: its number.");
        object().calls("point(false, 0) = 0; point(true, 9) = 1; total(0) = 2; point(false, 9) = 2; "
                + "point(true, 0) = 3; total(0) = 4");

        of(2, "NONE if there is no such TIME");
        Run times = object("0");
        times.refused("point(false, -1) = NONE; point(true, -1) = NONE; point(false, 10) = NONE; "
                + "point(true, 10) = NONE; point(false, 11) = NONE; point(false, 256) = NONE; "
                + "point(false, MIN) = NONE; point(true, MIN) = NONE; point(false, MAX) = NONE; "
                + "point(true, MAX) = NONE");
        times.calls("point(false, 0) = 1; point(true, 9) = 2");

        of(2, "or there are 20.");
        Run full = object().each(0, 19, "point(true, 0) = #").calls("point(false, 9) = 19");
        full.refused("point(false, 0) = NONE; point(true, 0) = NONE; point(true, 9) = NONE").calls("total(0) = 20");
        full.calls("fire(18, true) = false; fire(19, true) = true; edge(0, 19, 1, 0) = 0; commit(9) = 0; "
                + "commit(10) = 1");
    }

    private static void edge() {
        of(3, "An EDGE comes: its number.");
        object("000B").calls("edge(0, 1, 1, 1) = 0; edge(3, 2, 1, 1) = 1; total(1) = 2; edge(0, 1, 1, 1) = 2; "
                + "total(1) = 3").calls("syndrome(1) = 0b011; syndrome(2) = 0b100");

        of(3, "NONE if there are no such POINTS");
        Run points = object("00B");
        points.refused("edge(0, 3, 1, 0) = NONE; edge(3, 0, 1, 0) = NONE; edge(-1, 0, 1, 0) = NONE; "
                + "edge(0, -1, 1, 0) = NONE; edge(0, 32, 1, 0) = NONE; edge(33, 0, 1, 0) = NONE; "
                + "edge(0, 20, 1, 0) = NONE; edge(-32, 1, 1, 0) = NONE; edge(MIN, 1, 1, 0) = NONE; "
                + "edge(1, MIN, 1, 0) = NONE; edge(MAX, 1, 1, 0) = NONE; edge(1, MAX, 1, 0) = NONE; "
                + "edge(3, 4, 1, 0) = NONE; edge(MIN, MAX, 1, 0) = NONE");
        points.calls("point(false, 0) = 3; edge(0, 3, 1, 0) = 0");

        of(3, "(or both BOUNDARIES");
        object("BB0").refused("edge(0, 1, 1, 0) = NONE; edge(1, 0, 1, 0) = NONE")
                .calls("edge(0, 2, 1, 0) = 0; edge(2, 1, 1, 0) = 1");

        of(3, "or the same one)");
        object("00B").refused("edge(0, 0, 1, 0) = NONE; edge(1, 1, 1, 0) = NONE; edge(2, 2, 1, 0) = NONE");

        of(3, ", WEIGHT,");
        Run weights = object("000");
        weights.refused("edge(0, 1, -1, 0) = NONE; edge(0, 1, 1000001, 0) = NONE; edge(0, 1, MIN, 0) = NONE; "
                + "edge(0, 1, MAX, 0) = NONE");
        weights.calls("edge(0, 1, 0, 0) = 0; edge(1, 2, 1000000, 0) = 1; way(0, 2, 0) = 1000000");

        of(3, "signs is not 0 .. 255");
        Run signs = object("00");
        signs.refused("edge(0, 1, 1, -1) = NONE; edge(0, 1, 1, 256) = NONE; edge(0, 1, 1, 257) = NONE; "
                + "edge(0, 1, 1, 511) = NONE; edge(0, 1, 1, MIN) = NONE; edge(0, 1, 1, MAX) = NONE");
        signs.calls("edge(0, 1, 1, 0) = 0; edge(0, 1, 1, 255) = 1; signs(1) = 0; signs(2) = 255");

        of(3, "or there are 60.");
        Run full = object("00B").each(0, 60, "edge(0, 1, 1, 0) = #");
        full.refused("edge(0, 1, 1, 0) = NONE; edge(1, 2, 0, 0) = NONE; edge(0, 1, 0, 0) = NONE")
                .calls("total(1) = 60");
    }

    private static void fault() {
        of(4, "A fault of three or four POINTS");
        Run sizes = object("00000B");
        sizes.refused("fault(0, 1, 0) = NONE; fault(0b1, 1, 0) = NONE; fault(0b11, 1, 0) = NONE; "
                + "fault(0b11111, 1, 0) = NONE; fault(0b111111, 1, 0) = NONE");
        sizes.calls("fault(0b111, 1, 0) = 0; total(1) = 2; fault(0b1111, 1, 0) = 2; total(1) = 4");
        object("00000000000000000000").refused("fault(0b11111111111111111111, 1, 0) = NONE");

        of(4, "(a set, POINT i is 2^i), in order p, q, r, s");
        Run order = object("00000000000000000000").calls("fault(0b11110000000000000000, 5, 3) = 0");
        order.calls("syndrome(1) = 0b110000000000000000; syndrome(2) = 0b11000000000000000000");
        order.calls("fault(0b10000000000100001001, 5, 3) = 2; syndrome(4) = 0b1001; "
                + "syndrome(8) = 0b10000000000100000000");

        of(4, "an EDGE between p and q with the WEIGHT and the signs");
        Run first = object("0000B").calls("fault(0b1111, 1000000, 255) = 0; signs(1) = 255").way(0, 1, 1000000, 0);
        first.calls("fault(0b1110, 0, 0) = 2; signs(4) = 0; syndrome(4) = 0b110").way(1, 2, 0, 2);

        of(4, "then one between r and s with WEIGHT 0 and no signs");
        Run second = object("0000B").calls("fault(0b1111, 1000000, 255) = 0; signs(2) = 0; syndrome(2) = 0b1100")
                .way(2, 3, 0, 1);
        second.calls("fault(0b11101, 7, 7) = 2; signs(8) = 0; syndrome(8) = 0b1000").way(3, 4, 0, 3);

        of(4, "of three the second one is between r and the BOUNDARY with the least number.");
        object("000B0B").calls("fault(0b10011, 1, 1) = 0; signs(2) = 0; syndrome(2) = 0b10000").way(4, 3, 0, 1)
                .noWay(4, 5);
        object("B000").calls("fault(0b1110, 1, 1) = 0; syndrome(2) = 0b1000").way(0, 3, 0, 1);
        object("B00B").calls("fault(0b0111, 1, 1) = 0; syndrome(1) = 0b010; syndrome(2) = 0b100").way(0, 1, 1, 0)
                .way(0, 2, 0, 1);

        of(4, "The first one's number.");
        object("0000B").calls("edge(0, 1, 1, 0) = 0; fault(0b111, 1, 0) = 1; fault(0b1111, 1, 0) = 3; "
                + "edge(0, 1, 1, 0) = 5");
    }

    private static void faultThatCannotBe() {
        of(4, "NONE, changing nothing, if one of these EDGES can't be");
        Run kinds = object("00BBB00");
        // Both ends of the first edge, of the second one of four, and of the second one of three.
        kinds.refused("fault(0b0101100, 1, 0) = NONE; fault(0b1101100, 1, 0) = NONE; fault(0b0001111, 1, 0) = NONE; "
                + "fault(0b0000111, 1, 0) = NONE; fault(0b0001011, 1, 0) = NONE; fault(0b0010011, 1, 0) = NONE");
        kinds.refused("fault(0b1100011, -1, 0) = NONE; fault(0b1100011, 1000001, 0) = NONE; "
                + "fault(0b1100011, MIN, 0) = NONE; fault(0b1100011, MAX, 0) = NONE; fault(0b1100011, 1, -1) = NONE; "
                + "fault(0b1100011, 1, 256) = NONE; fault(0b1100011, 1, MIN) = NONE; "
                + "fault(0b1100011, 1, MAX) = NONE");
        kinds.calls("fault(0b1100011, 1000000, 255) = 0; fault(0b0100111, 1, 0) = 2; fault(0b1000011, 1, 0) = 4");
        Run lastTwo = object("0000B").each(0, 58, "edge(0, 1, 9, 0) = #")
                .calls("fault(0b1111, 9, 0) = 58; total(1) = 60");
        lastTwo.refused("fault(0b1111, 9, 0) = NONE; fault(0b111, 9, 0) = NONE");
        Run lastOne = object("0000B").each(0, 59, "edge(0, 1, 9, 0) = #");
        lastOne.refused("fault(0b1111, 0, 0) = NONE; fault(0b111, 0, 0) = NONE")
                .calls("total(1) = 59; edge(2, 3, 9, 0) = 59");

        of(4, "there is no such set");
        Run sets = object("0000B");
        sets.refused("fault(0b100011, 1, 0) = NONE; fault(0b100111, 1, 0) = NONE; "
                + "fault(0b100000000000000000111, 1, 0) = NONE; fault(-1, 1, 0) = NONE; fault(MIN, 1, 0) = NONE; "
                + "fault(MAX, 1, 0) = NONE; fault(-2147483645, 1, 0) = NONE; fault(-2147483641, 1, 0) = NONE; "
                + "fault(-2147483633, 1, 0) = NONE; fault(1073741831, 1, 0) = NONE");
        sets.calls("point(false, 0) = 5; fault(0b100011, 1, 0) = 0");
        Run full = object("0000000000000000000B");
        full.refused("fault(0b100000000000000000011, 1, 0) = NONE; fault(-2147483645, 1, 0) = NONE; "
                + "fault(-2147483641, 1, 0) = NONE");

        of(4, "or no BOUNDARY for it.");
        Run none = object("0000").refused("fault(0b111, 1, 0) = NONE; fault(0b1110, 1, 0) = NONE");
        none.calls("fault(0b1111, 1, 0) = 0; point(true, 0) = 4; fault(0b111, 1, 0) = 2").way(2, 4, 0, 3);
    }

    private static void fire() {
        of(5, "An INNER POINT is FIRED or not: true");
        Run run = object("00").calls("fire(1, true) = true; total(2) = 2; fire(0, true) = true; total(2) = 3");
        run.calls("fire(1, false) = true; total(2) = 1; fire(1, true) = true; total(2) = 3");

        of(5, "false if there is none such");
        Run none = object("0B0").calls("fire(0, true) = true");
        none.refused("fire(1, true) = false; fire(1, false) = false; fire(3, true) = false; fire(3, false) = false; "
                + "fire(-1, true) = false; fire(-1, false) = false; fire(32, false) = false; fire(34, true) = false; "
                + "fire(-30, true) = false; fire(-32, false) = false; fire(20, true) = false; "
                + "fire(MIN, true) = false; fire(MIN, false) = false; fire(MAX, true) = false; "
                + "fire(MAX, false) = false");

        of(5, "it is so already");
        Run already = object("00").refused("fire(0, false) = false").calls("fire(0, true) = true");
        already.refused("fire(0, true) = false; fire(1, false) = false").calls("fire(0, false) = true");
        already.refused("fire(0, false) = false").calls("total(2) = 0");

        of(5, "or 10 are.");
        Run ten = object("00000000000000000000").each(10, 19, "fire(#, true) = true").calls("fire(0, true) = true");
        ten.refused("fire(1, true) = false; fire(19, true) = false; fire(0, true) = false; fire(1, false) = false");
        // A point that goes out can't make too many, so the limit does not stop it.
        ten.calls("fire(18, false) = true; fire(19, true) = true; fire(18, true) = false; total(2) = 785409");
    }

    private static void erase() {
        of(6, "An EDGE is ERASED or not: true");
        Run run = object("00B").calls("edge(0, 1, 5, 0) = 0; edge(1, 2, 7, 0) = 1; erase(1, true) = true; "
                + "total(4) = 1");
        run.calls("erase(0, true) = true; total(4) = 2; way(0, 2, 0) = 0; erase(1, false) = true; total(4) = 1; "
                + "way(0, 2, 0) = 7");
        object("00").each(0, 60, "edge(0, 1, 1, 0) = #; total(4) = #; erase(#, true) = true").calls("total(4) = 60");

        of(6, "false if there is none such");
        Run none = object("00").calls("edge(0, 1, 5, 0) = 0; edge(0, 1, 5, 0) = 1; erase(0, true) = true");
        none.refused("erase(2, true) = false; erase(2, false) = false; erase(-1, true) = false; "
                + "erase(-1, false) = false; erase(64, false) = false; erase(65, true) = false; "
                + "erase(32, false) = false; erase(33, true) = false; erase(-64, false) = false; "
                + "erase(-63, true) = false; erase(60, true) = false; erase(MIN, true) = false; "
                + "erase(MIN, false) = false; erase(MAX, true) = false; erase(MAX, false) = false");

        of(6, "or it is so already.");
        Run already = object("00").calls("edge(0, 1, 5, 0) = 0; edge(0, 1, 6, 0) = 1")
                .refused("erase(0, false) = false");
        already.calls("erase(0, true) = true").refused("erase(0, true) = false; erase(1, false) = false")
                .calls("way(0, 1, 0) = 0");
        already.calls("erase(0, false) = true").refused("erase(0, false) = false")
                .calls("way(0, 1, 0) = 5; total(4) = 0");
    }

    private static void way() {
        of(7, "Of the LIGHTEST WAY between two POINTS, what 0: its WEIGHT");
        Run weight = object("000B").calls("edge(0, 1, 4, 0) = 0; edge(1, 2, 5, 0) = 1; edge(2, 3, 6, 0) = 2; "
                + "edge(0, 2, 10, 0) = 3");
        weight.calls("way(0, 2, 0) = 9; way(2, 0, 0) = 9; way(0, 3, 0) = 15; way(3, 0, 0) = 15; way(3, 2, 0) = 6");

        of(7, "1: how many EDGES");
        Run count = object("000B").calls("edge(0, 1, 4, 0) = 0; edge(1, 2, 5, 0) = 1; edge(2, 3, 6, 0) = 2");
        count.calls("way(0, 1, 1) = 1; way(0, 2, 1) = 2; way(2, 0, 1) = 2; way(0, 3, 1) = 3; way(3, 0, 1) = 3");

        of(7, "2 + i: its EDGE i, from a on");
        Run edges = object("0000").calls("edge(2, 3, 1, 0) = 0; edge(0, 1, 1, 0) = 1; edge(1, 2, 1, 0) = 2");
        edges.calls("way(0, 3, 2) = 1; way(0, 3, 3) = 2; way(0, 3, 4) = 0; way(0, 1, 2) = 1");

        of(7, "(the same WAY from b on is told the other way round)");
        Run back = object("0000").calls("edge(1, 3, 1, 0) = 0; edge(0, 2, 1, 0) = 1; edge(0, 1, 1, 0) = 2; "
                + "edge(2, 3, 1, 0) = 3");
        back.calls("way(0, 3, 2) = 1; way(0, 3, 3) = 3; way(3, 0, 2) = 3; way(3, 0, 3) = 1; way(3, 0, 4) = NONE");

        of(7, "NONE if there are no such POINTS");
        Run points = object("00").calls("edge(0, 1, 1, 0) = 0");
        points.noWay(0, 2).noWay(0, -1).noWay(1, 20).noWay(1, 32).noWay(2, 3).noWay(-1, -2);
        points.noWay(0, Integer.MIN_VALUE).noWay(1, Integer.MAX_VALUE).noWay(Integer.MIN_VALUE, Integer.MAX_VALUE);
        points.calls("point(false, 0) = 2; edge(1, 2, 1, 0) = 1").way(0, 2, 2, 0, 1);

        of(7, "they are the same one");
        object("00B").calls("edge(0, 1, 1, 0) = 0; edge(0, 1, 1, 0) = 1; edge(1, 2, 0, 0) = 2").noWay(0, 0)
                .noWay(1, 1).noWay(2, 2);

        of(7, "there is no WAY");
        Run none = object("00B0").noWay(0, 1).calls("edge(0, 2, 0, 0) = 0; edge(2, 1, 0, 0) = 1").noWay(0, 1)
                .noWay(0, 3);
        none.calls("edge(0, 3, 1, 0) = 2").way(0, 3, 1, 2).way(2, 3, 1, 0, 2).noWay(1, 3);

        of(7, "or no such what.");
        Run whats = object("000").calls("edge(0, 1, 1, 0) = 0; edge(1, 2, 1, 0) = 1");
        whats.calls("way(0, 2, -1) = NONE; way(2, 0, -1) = NONE; way(0, 2, -2) = NONE; way(0, 2, 4) = NONE; "
                + "way(2, 0, 4) = NONE");
        whats.calls("way(0, 2, 3) = 1; way(0, 1, 3) = NONE; way(1, 0, 3) = NONE; way(0, 2, MAX) = NONE; "
                + "way(2, 0, MAX) = NONE");
        whats.calls("way(0, 2, MIN) = NONE; way(2, 0, MIN) = NONE; way(0, 2, -2147483647) = NONE; "
                + "way(2, 0, -2147483647) = NONE");
        whats.calls("way(0, 2, 22) = NONE; way(2, 0, 22) = NONE; way(0, 2, 34) = NONE; way(0, 2, 66) = NONE");
    }

    private static void decode() {
        of(8, "THE PAIRING is found, for what is FIRED and ERASED now: its WEIGHT");
        Run now = object("000B").calls("edge(0, 1, 5, 0) = 0; edge(1, 2, 7, 0) = 1; edge(2, 3, 1, 0) = 2");
        now.calls("fire(0, true) = true; fire(1, true) = true; decode() = 5").pairs(0, 1);
        now.calls("fire(2, true) = true; total(3) = 1; decode() = 6").pairs(0, 1, 2, 3);
        now.calls("erase(1, true) = true; fix() = 0b101; decode() = 6; fire(2, false) = true; erase(0, true) = true; "
                + "decode() = 0");
        now.pairs(0, 1).calls("erase(0, false) = true; decode() = 5; edge(0, 1, 4, 0) = 3; decode() = 4; "
                + "fix() = 0b1000");

        of(8, "(0 if none is FIRED)");
        Run none = object().calls("decode() = 0; least() = 1; fix() = 0").pairs();
        none.calls("point(false, 0) = 0; point(true, 0) = 1; decode() = 0; edge(0, 1, 1000000, 0) = 0; decode() = 0")
                .pairs();
        none.calls("fire(0, true) = true; decode() = 1000000; fire(0, false) = true; decode() = 0; least() = 1; "
                + "fix() = 0").pairs();

        of(8, "ArithmeticException: there is no PAIRING");
        Run no = object("000B").calls("fire(0, true) = true; decode() = " + THROWN + "; fire(1, true) = true; "
                + "decode() = " + THROWN);
        no.calls("edge(0, 1, 1, 0) = 0; decode() = 1; fire(2, true) = true; decode() = " + THROWN + "; "
                + "edge(0, 2, 0, 0) = 1");
        no.calls("decode() = " + THROWN + "; edge(3, 1, 0, 0) = 2; decode() = 0");
        Run full = object("0000000000").each(0, 9, "edge(#, 9, 0, 0) = #; fire(#, true) = true")
                .calls("decode() = " + THROWN);
        full.calls("fire(9, true) = true; decode() = 0; least() = 945");

        of(8, "(that of before stays).");
        Run stays = withPairing().calls("fire(2, false) = true; fire(1, false) = true; edge(0, 2, 0, 0) = 3; "
                + "point(false, 0) = 4");
        stays.calls("fire(4, true) = true");
        stays.refused("decode() = " + THROWN + "; decode() = " + THROWN).pairs(0, 1, 2, 3)
                .calls("least() = 1; fix() = 0b11");
        object("0").calls("fire(0, true) = true").refused("decode() = " + THROWN).calls("least() = 0; fix() = 0")
                .pairs();
    }

    private static void pair() {
        of(9, "Of the i-th pair of THE PAIRING that was found last (in the order told)");
        Run order = object("0000B0").calls("edge(0, 5, 1, 0) = 0; edge(1, 3, 1, 0) = 1; edge(2, 4, 1, 0) = 2");
        order.calls("fire(5, true) = true; fire(3, true) = true; fire(2, true) = true; fire(1, true) = true; "
                + "fire(0, true) = true");
        order.calls("decode() = 3").pairs(0, 5, 1, 3, 2, 4).calls("fire(0, false) = true; fire(5, false) = true")
                .pairs(0, 5, 1, 3, 2, 4);
        order.calls("decode() = 2").pairs(1, 3, 2, 4);

        of(9, "side 0: its lesser FIRED POINT");
        Run lesser = object("B000").calls("edge(2, 1, 1, 0) = 0; edge(3, 0, 1, 0) = 1; fire(2, true) = true; "
                + "fire(1, true) = true");
        lesser.calls("fire(3, true) = true; decode() = 2; pair(0, 0) = 1; pair(1, 0) = 3");

        of(9, "1: the other one, or the BOUNDARY.");
        Run other = object("B000").calls("edge(2, 1, 1, 0) = 0; edge(3, 0, 1, 0) = 1; fire(2, true) = true; "
                + "fire(1, true) = true");
        other.calls("fire(3, true) = true; decode() = 2; pair(0, 1) = 2; pair(1, 1) = 0");

        of(9, "NONE if there is none such.");
        Run none = object("00").calls("pair(0, 0) = NONE; pair(0, 1) = NONE; edge(0, 1, 1, 0) = 0; "
                + "fire(0, true) = true");
        none.calls("fire(1, true) = true; pair(0, 0) = NONE; decode() = 1; pair(0, 0) = 0; pair(0, 1) = 1");
        none.refused("pair(1, 0) = NONE; pair(1, 1) = NONE; pair(-1, 0) = NONE; pair(-1, 1) = NONE; "
                + "pair(10, 0) = NONE; pair(MIN, 0) = NONE; pair(MIN, 1) = NONE; pair(MAX, 0) = NONE; "
                + "pair(MAX, 1) = NONE; pair(0, 2) = NONE; pair(0, -1) = NONE; pair(0, MIN) = NONE; "
                + "pair(0, MAX) = NONE; pair(0, 256) = NONE");
        none.calls("fire(0, false) = true; fire(1, false) = true; decode() = 0; pair(0, 0) = NONE; "
                + "pair(0, 1) = NONE");
        Run ten = object("0000000000B").each(0, 10, "edge(#, 10, 1, 0) = #; fire(#, true) = true")
                .calls("decode() = 10");
        ten.each(0, 10, "pair(#, 0) = #; pair(#, 1) = 10")
                .calls("pair(10, 0) = NONE; pair(10, 1) = NONE; pair(9, 2) = NONE");
    }

    private static void least() {
        of(10, "How many PAIRINGS were LEAST when it was found");
        Run then = object("00B").calls("edge(0, 1, 2, 0) = 0; edge(0, 2, 1, 0) = 1; edge(1, 2, 1, 0) = 2; "
                + "fire(0, true) = true");
        then.calls("fire(1, true) = true; decode() = 2; least() = 2; erase(0, true) = true; least() = 2; "
                + "decode() = 0; least() = 1");
        then.calls("fire(0, false) = true; least() = 1; erase(0, false) = true; fire(1, false) = true; decode() = 0; "
                + "least() = 1");
        Run most = object("0000000000B").each(0, 10, "edge(#, 10, 0, 0) = #; fire(#, true) = true")
                .calls("decode() = 0; least() = 1");
        for (int i = 0; i < 9; i++) {
            most.calls("edge(" + i + ", " + (i + 1) + ", 0, 0) = " + (10 + i));
        }
        most.calls("decode() = 0; least() = 9496");

        of(10, "0 ahead of any.");
        Run ahead = object("0B").calls("least() = 0; fire(0, true) = true; least() = 0; decode() = " + THROWN + "; "
                + "least() = 0");
        ahead.calls("commit(11) = NONE; least() = 0; commit(10) = " + THROWN + "; least() = 0; edge(0, 1, 1, 0) = 0; "
                + "least() = 0");
        ahead.calls("decode() = 1; least() = 1");
    }

    private static void fix() {
        of(11, "THE FIX of THE PAIRING that was found last");
        Run last = object("000B").calls("edge(0, 1, 1, 0) = 0; edge(1, 2, 1, 0) = 1; edge(2, 3, 1, 0) = 2; "
                + "fire(0, true) = true");
        last.calls("decode() = 3; fix() = 0b111; fire(1, true) = true; fix() = 0b111; decode() = 1; fix() = 0b001");
        last.calls("fire(2, true) = true; decode() = 2; fix() = 0b101; fire(3, true) = false; fix() = 0b101");
        Run high = object("00B").each(0, 59, "edge(0, 1, 9, 0) = #")
                .calls("edge(0, 2, 1, 0) = 59; fire(0, true) = true");
        high.calls("decode() = 1; fix() = 2^59; erase(31, true) = true; erase(32, true) = true; "
                + "fire(1, true) = true");
        high.calls("decode() = 0; fix() = 2^31; erase(31, false) = true; decode() = 0; fix() = 2^32");

        of(11, "with the LIGHTEST WAYS of then");
        Run then = object("00").calls("edge(0, 1, 5, 0) = 0; edge(0, 1, 4, 0) = 1; fire(0, true) = true; "
                + "fire(1, true) = true");
        then.calls("decode() = 4; fix() = 0b10; erase(0, true) = true; fix() = 0b10; edge(0, 1, 0, 0) = 2; "
                + "fix() = 0b10");
        then.calls("way(0, 1, 2) = 0; fix() = 0b10; decode() = 0; fix() = 0b01; erase(0, false) = true; "
                + "fix() = 0b01");

        of(11, "0 ahead of any.");
        Run ahead = object("0B").calls("fix() = 0; edge(0, 1, 1, 0) = 0; fire(0, true) = true; fix() = 0; "
                + "commit(-1) = NONE; fix() = 0");
        ahead.calls("decode() = 1; fix() = 1");
    }

    private static void signs() {
        of(12, "The SIGNS that an odd number of a set of EDGES has.");
        Run odd = object("00").calls("signs(0) = 0; edge(0, 1, 0, 0b10000011) = 0; edge(0, 1, 0, 0b00000110) = 1");
        odd.calls("edge(0, 1, 0, 0b00000010) = 2; signs(0) = 0; signs(0b1) = 131; signs(0b11) = 0b10000101");
        odd.calls("signs(0b111) = 0b10000111; signs(0b110) = 0b100; erase(0, true) = true; signs(0b1) = 131");
        Run full = object("00").each(0, 59, "edge(0, 1, 0, 1) = #")
                .calls("edge(0, 1, 0, 255) = 59; signs(2^59) = 255");
        full.calls("signs(2^31) = 1; signs(2^32) = 1; signs(1152921504606846975) = 254; "
                + "signs(576460752303423487) = 1");

        of(12, "NONE if it has an EDGE that there is not.");
        Run none = object("00").calls("signs(1) = NONE; signs(-1) = NONE; edge(0, 1, 0, 5) = 0; "
                + "edge(0, 1, 0, 6) = 1");
        none.refused("signs(0b100) = NONE; signs(0b111) = NONE; signs(2^32) = NONE; signs(4294967297) = NONE; "
                + "signs(2^60) = NONE; signs(2^63) = NONE; signs(-1) = NONE; signs(LMIN) = NONE; signs(LMAX) = NONE");
        none.calls("edge(0, 1, 0, 3) = 2; signs(0b111) = 0").each(3, 60, "edge(0, 1, 0, 0) = #");
        none.calls("signs(1152921504606846975) = 0; signs(2^60) = NONE; signs(2^61) = NONE; signs(2^62) = NONE; "
                + "signs(2^63) = NONE");
        none.calls("signs(-1) = NONE; signs(LMAX) = NONE; signs(LMIN) = NONE");
    }

    private static void syndrome() {
        of(13, "The SYNDROME of a set of EDGES (a set of POINTS).");
        Run ends = object("0000000000000000000B").calls("syndrome(0) = 0").each(0, 18, "edge(#, 18, 0, 0) = #");
        ends.calls("edge(19, 18, 0, 0) = 18; syndrome(1) = 262145; syndrome(2^18) = 262144; syndrome(0) = 0");
        ends.calls("syndrome(262143) = 262143; syndrome(524287) = 524287; syndrome(0b11) = 0b11");
        Run full = object("00B").each(0, 59, "edge(0, 1, 0, 0) = #")
                .calls("edge(1, 2, 0, 0) = 59; syndrome(2^59) = 0b10");
        full.calls("syndrome(2^32) = 0b11; syndrome(4294967297) = 0; syndrome(1152921504606846975) = 0b01");
        object("00000000000000000000").calls("edge(0, 19, 0, 0) = 0; syndrome(1) = 524289");

        of(13, "NONE if it has an EDGE that there is not.");
        Run none = object("00").calls("syndrome(1) = NONE; syndrome(-1) = NONE; edge(0, 1, 0, 5) = 0; "
                + "edge(0, 1, 0, 6) = 1");
        none.refused("syndrome(0b100) = NONE; syndrome(0b111) = NONE; syndrome(2^32) = NONE; "
                + "syndrome(4294967297) = NONE; syndrome(2^60) = NONE; syndrome(2^63) = NONE; syndrome(-1) = NONE; "
                + "syndrome(LMIN) = NONE; syndrome(LMAX) = NONE");
        none.calls("edge(0, 1, 0, 3) = 2; syndrome(0b111) = 0b11").each(3, 60, "edge(0, 1, 0, 0) = #");
        none.calls("syndrome(1152921504606846975) = 0; syndrome(2^60) = NONE; syndrome(2^61) = NONE; "
                + "syndrome(2^62) = NONE");
        none.calls("syndrome(2^63) = NONE; syndrome(-1) = NONE; syndrome(LMAX) = NONE; syndrome(LMIN) = NONE");
    }

    private static void commit() {
        of(14, "THE PAIRING is found, and COMMITTED up to a TIME (0 .. 10)");
        Run ends = object("09B").calls("edge(0, 2, 1, 0) = 0; edge(1, 2, 1, 0) = 1; fire(0, true) = true; "
                + "fire(1, true) = true");
        ends.calls("commit(0) = 0; total(2) = 3; kept() = 0; least() = 1; fix() = 0b11").pairs(0, 2, 1, 2);
        ends.calls("commit(1) = 1; total(2) = 2; commit(9) = 0; commit(10) = 1; total(2) = 0; kept() = 0b11");
        withPairing().calls("fire(2, false) = true; erase(0, true) = true; commit(0) = 0; least() = 1").pairs(0, 1);

        of(14, "how many POINTS are FIRED no more.");
        withPairing().calls("commit(1) = 0; commit(2) = 2; commit(2) = 0; commit(3) = 1; commit(3) = 0");
        object("0000000000B").each(0, 10, "edge(#, 10, 1, 0) = #; fire(#, true) = true")
                .calls("commit(1) = 10; total(2) = 0");
        object().calls("commit(0) = 0; commit(10) = 0; least() = 1");

        of(14, "NONE, changing nothing, if there is no such TIME");
        Run times = withPairing().calls("commit(2) = 2; kept() = 1; fire(0, true) = true; fire(1, true) = true; "
                + "fire(2, false) = true");
        times.refused("commit(-1) = NONE; commit(11) = NONE; commit(12) = NONE; commit(256) = NONE; "
                + "commit(MIN) = NONE; commit(MAX) = NONE");
        times.pairs(0, 1, 2, 3).calls("total(2) = 3; kept() = 1; commit(10) = 2; kept() = 0").pairs(0, 1);

        of(14, "ArithmeticException (asked behind that)");
        Run behind = object("0").calls("fire(0, true) = true; commit(-1) = NONE; commit(11) = NONE; "
                + "commit(MIN) = NONE; commit(MAX) = NONE");
        behind.calls("commit(0) = " + THROWN + "; commit(10) = " + THROWN);

        of(14, "changing nothing, as for decode().");
        Run stays = withPairing().calls("commit(2) = 2; kept() = 1; fire(1, true) = true; point(false, 0) = 4; "
                + "fire(4, true) = true");
        stays.refused("commit(0) = " + THROWN + "; commit(10) = " + THROWN).pairs(0, 1, 2, 3)
                .calls("kept() = 1; total(2) = 0b10110");

        of(14, "(What pair() and fix() tell is THE PAIRING that was found.)");
        Run found = withPairing().calls("fire(0, false) = true; fire(1, false) = true; fire(0, true) = true; "
                + "fire(1, true) = true");
        found.calls("commit(2) = 2; fix() = 0b11; least() = 1").pairs(0, 1, 2, 3);
        found.calls("commit(10) = 1; fix() = 0b10").pairs(2, 3).calls("commit(10) = 0; fix() = 0").pairs();
    }

    private static void kept() {
        of(15, "KEPT.");
        Run run = withPairing().calls("kept() = 0; commit(2) = 2; kept() = 0b01; decode() = 3; kept() = 0b01; "
                + "commit(3) = 1; kept() = 0b11");
        run.calls("erase(0, true) = true; kept() = 0b11; edge(0, 1, 0, 0) = 3; kept() = 0b11; fire(0, true) = true; "
                + "fire(1, true) = true");
        run.calls("commit(9) = 2; kept() = 0b10");
        Run high = object("00B").each(0, 59, "edge(0, 1, 9, 0) = #")
                .calls("edge(0, 2, 1, 0) = 59; fire(0, true) = true");
        high.calls("commit(1) = 1; kept() = 2^59; erase(32, true) = true; fire(0, true) = true; "
                + "fire(1, true) = true");
        high.calls("commit(1) = 2; kept() = 576460756598390784");
    }

    private static void total() {
        of(16, "What 0: POINTS");
        object("0B0").calls("total(0) = 3; point(false, 10) = NONE; total(0) = 3; point(true, 0) = 3; total(0) = 4");

        of(16, "1: EDGES");
        object("000B").calls("total(1) = 0; edge(0, 1, 1, 0) = 0; total(1) = 1; fault(7, 0, 0) = 1; total(1) = 3; "
                + "edge(0, 0, 1, 0) = NONE; total(1) = 3");

        of(16, "2: FIRED POINTS, as a set");
        object("00000000000000000000").calls("total(2) = 0; fire(19, true) = true; total(2) = 524288; "
                + "fire(1, true) = true; total(2) = 524290").calls("fire(19, false) = true; total(2) = 2");

        of(16, "3: pairs of THE PAIRING that was found last");
        withPairing().calls("total(3) = 2; fire(2, false) = true; total(3) = 2; commit(2) = 2; total(3) = 1; "
                + "decode() = 0; total(3) = 0");
        object("0").calls("total(3) = 0; fire(0, true) = true; total(3) = 0; decode() = " + THROWN + "; "
                + "total(3) = 0");

        of(16, "4: how many EDGES are ERASED.");
        Run erased = object("00").calls("total(4) = 0; edge(0, 1, 1, 0) = 0; edge(0, 1, 1, 0) = 1; total(4) = 0; "
                + "erase(1, true) = true");
        erased.calls("total(4) = 1; erase(1, true) = false; total(4) = 1; erase(0, true) = true; total(4) = 2; "
                + "erase(1, false) = true; total(4) = 1");

        of(16, "NONE for another what.");
        withPairing().refused("total(-1) = NONE; total(5) = NONE; total(6) = NONE; total(256) = NONE; "
                + "total(MIN) = NONE; total(MAX) = NONE");
    }

    public static void main(String[] args) {
        newObject();
        point();
        edge();
        fault();
        faultThatCannotBe();
        fire();
        erase();
        way();
        decode();
        pair();
        least();
        fix();
        signs();
        syndrome();
        commit();
        kept();
        total();
        SENTENCES.end();
    }
}
