/** Each sentence of the document's Terms, and of what the class is, at its edges. */
public final class TermSentencesTest {
    private static final String THROWN = "throws.ArithmeticException";
    private static final Sentences SENTENCES = new Sentences();

    private static void of(String quote) {
        SENTENCES.of("Terms", quote);
    }

    private static Run object() {
        return SENTENCES.object();
    }

    private static Run object(String kinds) {
        return SENTENCES.object(kinds);
    }

    private static void whatItIs() {
        SENTENCES.of("What it is", "Faults that fired checks, paired at least weight: checks as points, what may have "
                + "happened between them as edges with weights; points that fired are paired with one another or with "
                + "a boundary along the lightest ways; equal ones counted, the first one kept; edges that are erased, "
                + "faults of several points split, early ones fixed for good.");
        Run story = object("0012B").calls("edge(0, 1, 3, 1) = 0; edge(2, 4, 3, 2) = 1; fault(0b1111, 5, 4) = 2");
        story.each(0, 3, "fire(#, true) = true").calls("decode() = 6; least() = 1; fix() = 0b0011").pairs(0, 1, 2, 4);
        story.calls("erase(2, true) = true; decode() = 3; least() = 1; fix() = 0b0110; commit(1) = 2; "
                + "kept() = 0b0100");
        story.calls("total(2) = 0b0100; fire(3, true) = true; decode() = 0; commit(3) = 2; kept() = 0b1100");

        SENTENCES.of("What it is", "An object is used for at most 512 calls after it has been made; "
                + "what later calls answer is free.");
        Run whole = object("0000000000000000000B").each(0, 19, "edge(#, 19, 2, 0) = #");
        whole.each(19, 60, "edge(0, 1, 9, 0) = #").each(0, 10, "fire(#, true) = true");
        while (whole.callsLeft() > 6) {
            whole.calls("decode() = 20; erase(59, true) = true; decode() = 16; erase(59, false) = true");
        }
        whole.calls("commit(0) = 0; commit(1) = 10").each(0, whole.callsLeft() - 1, "total(2) = 0")
                .calls("kept() = 1023");
    }

    private static void points() {
        of("POINTS 0, 1, .. (20 at most)");
        Run inner = object();
        inner.each(0, 20, "point(false, 0) = #").calls("total(0) = 20");
        inner.refused("point(false, 0) = NONE; point(true, 0) = NONE");
        inner.calls("edge(0, 19, 4, 0) = 0; edge(0, 20, 4, 0) = NONE; fire(19, true) = true; fire(20, true) = false");
        inner.calls("fire(0, true) = true; total(2) = 524289; decode() = 4").pairs(0, 19);
        Run boundaries = object();
        boundaries.each(0, 20, "point(true, 9) = #").calls("total(0) = 20");
        boundaries.refused("point(true, 9) = NONE; point(false, 9) = NONE");

        of("each an INNER one or a BOUNDARY");
        object("0B").calls("fire(0, true) = true; fire(1, true) = false; total(2) = 1");

        of("with a TIME 0 .. 9");
        Run times = object();
        times.refused("point(false, -1) = NONE; point(true, -1) = NONE; point(false, 10) = NONE; "
                + "point(true, 10) = NONE");
        times.each(0, 10, "point(false, #) = #");
        times.calls("point(true, 0) = 10; point(true, 9) = 11; edge(0, 10, 1, 0) = 0; edge(9, 10, 1, 0) = 1");
        times.calls("fire(0, true) = true; commit(0) = 0; commit(1) = 1");
        times.calls("fire(9, true) = true; commit(9) = 0; commit(10) = 1");
    }

    private static void edges() {
        of("EDGES 0, 1, .. (60 at most)");
        Run full = object("00B");
        full.each(0, 59, "edge(0, 1, 9, 0) = #").calls("edge(1, 2, 7, 128) = 59; total(1) = 60");
        full.refused("edge(0, 1, 9, 0) = NONE; edge(1, 2, 0, 0) = NONE; fault(7, 0, 0) = NONE");
        full.calls("signs(2^59) = 128; syndrome(2^59) = 2; signs(2^60) = NONE");
        full.calls("fire(1, true) = true; decode() = 7; fix() = 2^59");
        full.calls("erase(59, true) = true; erase(60, true) = false; decode() = 0; commit(1) = 1; kept() = 2^59");

        of("between two different POINTS");
        Run different = object("00B");
        different.refused("edge(0, 0, 1, 0) = NONE; edge(1, 1, 1, 0) = NONE; edge(2, 2, 1, 0) = NONE");
        different.calls("edge(0, 1, 1, 0) = 0; edge(0, 1, 1, 0) = 1; edge(1, 0, 1, 0) = 2");

        of("not both BOUNDARIES");
        Run boundaries = object("B0B");
        boundaries.refused("edge(0, 2, 1, 0) = NONE; edge(2, 0, 1, 0) = NONE");
        boundaries.calls("edge(0, 1, 1, 0) = 0; edge(1, 2, 1, 0) = 1");

        of("with a WEIGHT 0 .. 1000000");
        Run weights = object("0000");
        weights.refused("edge(0, 1, -1, 0) = NONE; edge(0, 1, 1000001, 0) = NONE");
        weights.calls("edge(0, 1, 0, 0) = 0; way(0, 1, 0) = 0; edge(0, 2, 1, 0) = 1; way(0, 2, 0) = 1");
        weights.calls("edge(1, 3, 1000000, 0) = 2; way(1, 3, 0) = 1000000");

        of("and a set of SIGNS 0 .. 7 (SIGN i is 2^i)");
        Run signs = object("00");
        signs.each(0, 8, "edge(0, 1, 0, 2^#) = #; signs(2^#) = 2^#");
        signs.calls("edge(0, 1, 0, 0) = 8; signs(2^8) = 0; edge(0, 1, 0, 255) = 9; signs(2^9) = 255");
        signs.refused("edge(0, 1, 0, 2^8) = NONE; edge(0, 1, 0, -1) = NONE");

        of("An EDGE that is ERASED has WEIGHT 0 as long as it is.");
        Run erased = object("00");
        erased.calls("edge(0, 1, 1000000, 0) = 0; fire(0, true) = true; fire(1, true) = true");
        erased.calls("way(0, 1, 0) = 1000000; erase(0, true) = true; way(0, 1, 0) = 0; decode() = 0");
        erased.calls("edge(0, 1, 3, 0) = 1; way(0, 1, 2) = 0; erase(1, true) = true; way(0, 1, 2) = 0");
        erased.calls("erase(0, false) = true; way(0, 1, 0) = 0; way(0, 1, 2) = 1; decode() = 0");
        erased.calls("erase(1, false) = true; way(0, 1, 0) = 3; decode() = 3");
        object("00").calls("edge(0, 1, 0, 0) = 0; erase(0, true) = true; way(0, 1, 0) = 0; erase(0, false) = true; "
                + "way(0, 1, 0) = 0");
    }

    private static void ways() {
        of("A WAY between two POINTS: EDGES one behind the other that lead from one to the other");
        Run chain = object("00000").calls("edge(2, 0, 1, 0) = 0; edge(2, 3, 2, 0) = 1; edge(1, 3, 4, 0) = 2");
        chain.way(0, 1, 7, 0, 1, 2).way(0, 2, 1, 0).way(2, 1, 6, 1, 2).noWay(0, 4).noWay(3, 4);
        object("0000").calls("edge(0, 1, 1, 0) = 0; edge(2, 3, 1, 0) = 1").noWay(0, 2).noWay(0, 3).noWay(1, 2);

        of("at no BOUNDARY between");
        Run over = object("0B0").calls("edge(0, 1, 0, 0) = 0; edge(1, 2, 0, 0) = 1");
        over.noWay(0, 2).calls("erase(0, true) = true; erase(1, true) = true").noWay(0, 2);
        over.calls("edge(0, 2, 1000000, 0) = 2").way(0, 2, 1000000, 2);
        Run third = object("B0B0B").calls("edge(0, 1, 1, 0) = 0; edge(1, 2, 1, 0) = 1; edge(2, 3, 1, 0) = 2");
        third.calls("edge(3, 4, 1, 0) = 3").way(0, 2, 2, 0, 1).way(2, 4, 2, 2, 3);
        third.noWay(0, 4).noWay(0, 3).noWay(1, 4).noWay(1, 3);
        Run equal = object("0B00").calls("edge(0, 1, 1, 0) = 0; edge(1, 3, 1, 0) = 1");
        equal.calls("edge(0, 2, 1, 0) = 2; edge(2, 3, 1, 0) = 3").way(0, 3, 2, 2, 3);
    }

    private static void lightestWays() {
        of("the LIGHTEST one: of least WEIGHT in all");
        Run longest = object("00000000000000000000").calls("edge(0, 19, 20, 0) = 0");
        longest.each(1, 19, "edge(#, 0, 99, 0) = #");
        for (int i = 0; i < 19; i++) {
            longest.calls("edge(" + i + ", " + (i + 1) + ", 1, 0) = " + (19 + i));
        }
        longest.calls("way(0, 19, 0) = 19; way(0, 19, 1) = 19; way(19, 0, 1) = 19; way(0, 19, 2) = 19");
        longest.calls("way(0, 19, 20) = 37; way(0, 19, 21) = NONE; way(19, 0, 2) = 37; way(19, 0, 20) = 19");
        Run heaviest = object("00000000000000000000");
        for (int i = 0; i < 19; i++) {
            heaviest.calls("edge(" + i + ", " + (i + 1) + ", 1000000, 0) = " + i);
        }
        heaviest.calls("way(0, 19, 0) = 19000000; way(19, 0, 0) = 19000000; way(19, 0, 1) = 19");

        of("of these of fewest EDGES");
        Run fewest = object("000").calls("edge(0, 1, 1, 0) = 0; edge(1, 2, 1, 0) = 1; edge(0, 2, 2, 0) = 2");
        fewest.way(0, 2, 2, 2).calls("erase(0, true) = true; erase(1, true) = true").way(0, 2, 0, 0, 1);
        fewest.calls("erase(2, true) = true").way(0, 2, 0, 2);

        of("of these the one whose EDGES' numbers, from the POINT with the lesser number on, come first");
        Run lesser = object("0000").calls("edge(1, 3, 1, 0) = 0; edge(0, 2, 1, 0) = 1");
        lesser.calls("edge(0, 1, 1, 0) = 2; edge(2, 3, 1, 0) = 3").way(0, 3, 2, 1, 3);
        lesser.calls("fire(3, true) = true; fire(0, true) = true; decode() = 2; fix() = 0b1010");
        Run toBoundary = object("B000").calls("edge(1, 3, 1, 0) = 0; edge(0, 2, 1, 0) = 1");
        toBoundary.calls("edge(0, 1, 1, 0) = 2; edge(2, 3, 1, 0) = 3").way(0, 3, 2, 1, 3);
        toBoundary.calls("fire(3, true) = true; decode() = 2; fix() = 0b1010; commit(1) = 1; kept() = 0b1010");

        of("(the first number that differs is the lesser one)");
        Run later = object("00000").calls("edge(0, 1, 0, 0) = 0; edge(3, 4, 0, 0) = 1; edge(1, 2, 0, 0) = 2");
        later.calls("edge(1, 3, 0, 0) = 3; edge(2, 4, 0, 0) = 4").way(0, 4, 0, 0, 2, 4);
        Run last = object("000").calls("edge(0, 1, 5, 0) = 0; edge(1, 2, 5, 0) = 1; edge(1, 2, 5, 0) = 2");
        last.way(0, 2, 10, 0, 1).calls("edge(0, 1, 5, 0) = 3").way(0, 2, 10, 0, 1);
        Run notAsText = object("0000").each(0, 2, "edge(1, 2, 9, 0) = #");
        notAsText.calls("edge(0, 1, 1, 0) = 2").each(3, 10, "edge(1, 2, 9, 0) = #");
        notAsText.calls("edge(0, 2, 1, 0) = 10; edge(2, 3, 1, 0) = 11; edge(1, 3, 1, 0) = 12").way(0, 3, 2, 2, 12);
    }

    private static void pairings() {
        of("FIRED are INNER POINTS (10 at most).");
        Run ten = object("00000000000B").each(0, 11, "edge(#, 11, 1, 0) = #");
        ten.each(0, 10, "fire(#, true) = true").calls("total(2) = 1023; decode() = 10");
        ten.refused("fire(10, true) = false; fire(11, true) = false");
        ten.calls("fire(3, false) = true; fire(10, true) = true; fire(3, true) = false; total(2) = 2039; "
                + "decode() = 10");

        of("A PAIRING puts each of them in a pair with another one, between which there is a WAY");
        Run two = object("0000").calls("edge(0, 2, 5, 0) = 0; edge(1, 3, 6, 0) = 1");
        two.calls("fire(0, true) = true; decode() = " + THROWN + "; fire(1, true) = true; decode() = " + THROWN);
        two.calls("fire(2, true) = true; decode() = " + THROWN + "; fire(3, true) = true; decode() = 11");
        two.pairs(0, 2, 1, 3).calls("least() = 1");
        Run three = object("000").calls("edge(0, 1, 0, 0) = 0; edge(1, 2, 0, 0) = 1; edge(0, 2, 0, 0) = 2");
        three.each(0, 3, "fire(#, true) = true").calls("decode() = " + THROWN);

        of("or with a BOUNDARY to which there is one");
        Run boundary = object("00BB").calls("edge(1, 2, 4, 0) = 0; fire(0, true) = true; decode() = " + THROWN);
        boundary.calls("edge(0, 3, 5, 0) = 1; decode() = 5").pairs(0, 3);
        boundary.calls("fire(1, true) = true; decode() = 9").pairs(0, 3, 1, 2);
        Run same = object("00B").calls("edge(0, 2, 1, 0) = 0; edge(1, 2, 1, 0) = 1");
        same.calls("fire(0, true) = true; fire(1, true) = true; decode() = 2; least() = 1").pairs(0, 2, 1, 2);
        Run notBeyond = object("0BB0").calls("edge(0, 1, 1000000, 0) = 0; edge(1, 3, 0, 0) = 1; "
                + "edge(3, 2, 0, 0) = 2");
        notBeyond.calls("fire(0, true) = true; decode() = 1000000").pairs(0, 1);

        of("that of least WEIGHT");
        Run lightest = object("0BB").calls("edge(0, 1, 3, 0) = 0; edge(0, 2, 2, 0) = 1; fire(0, true) = true");
        lightest.calls("decode() = 2; fix() = 2").pairs(0, 2);
        lightest.calls("erase(0, true) = true; decode() = 0; fix() = 1").pairs(0, 1);

        of("of these the one with the least number.");
        Run least = object("00BB").calls("edge(0, 3, 2, 0) = 0; edge(0, 1, 1, 0) = 1; edge(1, 2, 1, 0) = 2");
        least.calls("fire(0, true) = true; decode() = 2; least() = 1; fix() = 0b110").pairs(0, 2);
    }

    private static void weightsOfPairings() {
        of("Its WEIGHT is that of all LIGHTEST WAYS of its pairs");
        Run mixed = object("00000B").calls("edge(0, 1, 3, 0) = 0; edge(2, 3, 4, 0) = 1; edge(4, 5, 5, 0) = 2");
        mixed.each(0, 4, "fire(#, true) = true").calls("decode() = 7; fire(4, true) = true; decode() = 12");
        Run ten = object("0000000000B").each(0, 10, "edge(#, 10, 1000000, 0) = #; fire(#, true) = true");
        ten.calls("decode() = 10000000; fix() = 1023")
                .pairs(0, 10, 1, 10, 2, 10, 3, 10, 4, 10, 5, 10, 6, 10, 7, 10, 8, 10, 9, 10);
        Run longest = object("0000000000000000000B");
        for (int i = 0; i < 19; i++) {
            longest.calls("edge(" + i + ", " + (i + 1) + ", 1000000, 0) = " + i);
        }
        longest.calls("fire(0, true) = true; decode() = 19000000; fix() = 524287").pairs(0, 19);

        of("(which may have EDGES in common)");
        Run common = object("000000").calls("edge(4, 5, 9, 0) = 0; edge(0, 4, 1, 0) = 1; edge(5, 1, 1, 0) = 2");
        common.calls("edge(2, 4, 1, 0) = 3; edge(5, 3, 1, 0) = 4").each(0, 4, "fire(#, true) = true");
        common.calls("decode() = 4; least() = 1").pairs(0, 2, 1, 3);
        common.calls("erase(0, true) = true; decode() = 4; least() = 3").pairs(0, 1, 2, 3);

        of("LEAST are those of least WEIGHT");
        Run square = object("0000").calls("edge(0, 1, 1, 0) = 0; edge(2, 3, 1, 0) = 1; edge(0, 2, 1, 0) = 2");
        square.calls("edge(1, 3, 1, 0) = 3").each(0, 4, "fire(#, true) = true").calls("decode() = 2; least() = 2");
        Run boundary = object("00B").calls("edge(0, 2, 1, 0) = 0; edge(1, 2, 1, 0) = 1; edge(0, 1, 3, 0) = 2");
        boundary.calls("fire(0, true) = true; fire(1, true) = true; decode() = 2; least() = 1");
        boundary.calls("edge(0, 1, 2, 0) = 3; decode() = 2; least() = 2; edge(0, 1, 2, 0) = 4; decode() = 2; "
                + "least() = 2");
        boundary.calls("edge(0, 1, 1, 0) = 5; decode() = 1; least() = 1");
    }

    private static void firstPairings() {
        of("THE PAIRING is the first of these: of the FIRED POINTS, the least one first, "
                + "each that is in no pair yet has the least partner that there may be");
        Run equal = object("0000").calls("edge(2, 3, 1, 0) = 0; edge(1, 3, 1, 0) = 1; edge(1, 2, 1, 0) = 2");
        equal.calls("edge(0, 3, 1, 0) = 3; edge(0, 2, 1, 0) = 4; edge(0, 1, 1, 0) = 5");
        equal.calls("fire(3, true) = true; fire(1, true) = true; fire(2, true) = true; fire(0, true) = true");
        equal.calls("decode() = 2; least() = 3; fix() = 0b100001").pairs(0, 1, 2, 3);
        Run ring = object("0000").calls("edge(0, 3, 1, 0) = 0; edge(0, 2, 1, 0) = 1; edge(1, 2, 1, 0) = 2");
        ring.calls("edge(1, 3, 1, 0) = 3").each(0, 4, "fire(#, true) = true").calls("decode() = 2; least() = 2");
        ring.pairs(0, 2, 1, 3);
        Run notGreedy = object("0000").calls("edge(0, 1, 1, 0) = 0; edge(2, 3, 9, 0) = 1; edge(0, 2, 2, 0) = 2");
        notGreedy.calls("edge(1, 3, 2, 0) = 3").each(0, 4, "fire(#, true) = true").calls("decode() = 4; least() = 1");
        notGreedy.pairs(0, 2, 1, 3);
        Run later = object("000000").calls("edge(0, 5, 1, 0) = 0; edge(1, 2, 1, 0) = 1; edge(1, 3, 1, 0) = 2");
        later.calls("edge(4, 2, 1, 0) = 3; edge(4, 3, 1, 0) = 4").each(0, 6, "fire(#, true) = true");
        later.calls("decode() = 3; least() = 2").pairs(0, 5, 1, 2, 3, 4);

        of("a BOUNDARY comes behind all others.");
        Run boundary = object("B000").calls("edge(0, 1, 1, 0) = 0; edge(0, 2, 1, 0) = 1; edge(0, 3, 1, 0) = 2");
        boundary.calls("edge(1, 2, 2, 0) = 3; edge(1, 3, 2, 0) = 4; edge(2, 3, 2, 0) = 5");
        boundary.calls("fire(1, true) = true; fire(2, true) = true; decode() = 2; least() = 2").pairs(1, 2);
        boundary.calls("fire(3, true) = true; decode() = 3; least() = 4").pairs(1, 2, 3, 0);
        boundary.calls("erase(0, true) = true; decode() = 2; least() = 2").pairs(1, 0, 2, 3);
    }

    private static void fixesAndSyndromes() {
        of("THE FIX is the set of EDGES that an odd number of the LIGHTEST WAYS of THE PAIRING has.");
        Run hubs = object("00000000").calls("edge(6, 7, 0, 0) = 0; edge(0, 6, 1, 0) = 1; edge(2, 6, 1, 0) = 2");
        hubs.calls("edge(4, 6, 1, 0) = 3; edge(1, 7, 1, 0) = 4; edge(3, 7, 1, 0) = 5; edge(5, 7, 1, 0) = 6");
        hubs.calls("decode() = 0; fix() = 0");
        hubs.calls("fire(0, true) = true; fire(1, true) = true; decode() = 2; fix() = 0b0010011");
        hubs.calls("fire(2, true) = true; fire(3, true) = true; decode() = 4; fix() = 0b0110110");
        hubs.calls("fire(4, true) = true; fire(5, true) = true; decode() = 6; fix() = 0b1111111")
                .pairs(0, 1, 2, 3, 4, 5);

        of("The SYNDROME of a set of EDGES: the INNER POINTS at which an odd number of them ends.");
        Run ends = object("000B").calls("edge(0, 1, 1, 0) = 0; edge(2, 1, 1, 0) = 1; edge(0, 2, 1, 0) = 2");
        ends.calls("edge(3, 2, 1, 0) = 3; edge(0, 3, 1, 0) = 4; edge(1, 0, 1, 0) = 5; edge(0, 1, 1, 0) = 6");
        ends.calls("syndrome(0) = 0; syndrome(0b1) = 0b011; syndrome(0b11) = 0b101; syndrome(0b111) = 0");
        ends.calls("syndrome(0b1000) = 0b100; syndrome(0b11000) = 0b101; syndrome(0b100001) = 0");
        ends.calls("syndrome(0b1100001) = 0b011; syndrome(0b10101) = 0b111");
    }

    private static void committed() {
        of("COMMITTED up to a TIME: each pair of THE PAIRING whose FIRED POINTS have all lesser TIMES");
        Run rising = object("34").calls("edge(0, 1, 1, 0) = 0; fire(0, true) = true; fire(1, true) = true");
        rising.calls("commit(0) = 0; commit(3) = 0; commit(4) = 0; total(2) = 3; commit(5) = 2; total(2) = 0");
        Run falling = object("43").calls("edge(0, 1, 1, 0) = 0; fire(0, true) = true; fire(1, true) = true");
        falling.calls("commit(3) = 0; commit(4) = 0; total(2) = 3; commit(5) = 2; total(2) = 0");
        Run boundary = object("5").calls("point(true, 9) = 1; edge(0, 1, 1, 0) = 0; fire(0, true) = true");
        boundary.calls("commit(5) = 0; total(2) = 1; commit(6) = 1; total(2) = 0");
        Run early = object("9B").calls("edge(0, 1, 1, 0) = 0; fire(0, true) = true; commit(9) = 0; commit(10) = 1");
        early.calls("total(2) = 0");

        of("its POINTS are FIRED no more");
        Run two = object("1100").calls("edge(0, 1, 1, 0) = 0; edge(2, 3, 1, 0) = 1")
                .each(0, 4, "fire(#, true) = true");
        two.calls("commit(1) = 2; total(2) = 0b0011; fire(2, false) = false; fire(1, true) = false");
        two.calls("fire(2, true) = true; fire(3, true) = true; commit(2) = 4; total(2) = 0");

        of("the EDGES of its LIGHTEST WAY change KEPT");
        Run kept = object("1100B").calls("edge(0, 1, 1, 0) = 0; edge(2, 3, 9, 0) = 1; edge(3, 4, 1, 0) = 2");
        kept.calls("edge(2, 4, 9, 0) = 3; edge(2, 3, 1, 0) = 4").calls("fire(0, true) = true; fire(1, true) = true");
        kept.calls("fire(2, true) = true; commit(1) = 1; kept() = 0b10100; fix() = 0b10101; commit(2) = 2; "
                + "kept() = 0b10101");

        of("(a set of EDGES, empty at first)");
        Run first = object("1B").calls("kept() = 0; edge(0, 1, 1, 0) = 0; kept() = 0; fire(0, true) = true; "
                + "decode() = 1");
        first.calls("kept() = 0; commit(1) = 0; kept() = 0; commit(2) = 1; kept() = 1");

        of("those that are in it go, the others come.");
        Run turned = object("00B").calls("edge(0, 1, 1, 0) = 0; edge(1, 2, 1, 0) = 1; fire(0, true) = true");
        turned.calls("commit(1) = 1; kept() = 0b11; fire(1, true) = true; commit(1) = 1; kept() = 0b01");
        turned.calls("fire(0, true) = true; commit(1) = 1; kept() = 0b10; fire(1, true) = true; commit(1) = 1; "
                + "kept() = 0");
        Run common = object("000000").calls("edge(4, 5, 0, 0) = 0; edge(0, 4, 1, 0) = 1; edge(5, 1, 1, 0) = 2");
        common.calls("edge(2, 4, 1, 0) = 3; edge(5, 3, 1, 0) = 4").each(0, 4, "fire(#, true) = true");
        common.calls("commit(1) = 4").pairs(0, 1, 2, 3).calls("kept() = 0b11110");
    }

    public static void main(String[] args) {
        whatItIs();
        points();
        edges();
        ways();
        lightestWays();
        pairings();
        weightsOfPairings();
        firstPairings();
        fixesAndSyndromes();
        committed();
        SENTENCES.end();
    }
}
