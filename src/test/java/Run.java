/** An object under test, driven by written calls, each with the answer that is due. */
final class Run {
    /** What an object answers beyond this is free, so a test that goes on asks nothing. */
    private static final int CALL_LIMIT = 512;

    private final Sentences sentences;
    private final PairDecoder decoder = new PairDecoder();
    private int made = 0;

    Run(Sentences sentences) {
        this.sentences = sentences;
    }

    /** Such as "edge(0, 1, 5, 3) = 0; fire(0, true) = true; decode() = throws.ArithmeticException". */
    Run calls(String written) {
        for (String one : written.split(";")) {
            String[] sides = one.split("=");
            String call = sides[0].trim();
            String want = sides[1].trim();
            boolean isWord = want.equals("true") || want.equals("false") || want.startsWith("throws.");
            sentences.due("call " + (made + 1) + ", " + call, answer(call), isWord ? want : "" + number(want));
        }
        return this;
    }

    /** The calls once for each number from one to ahead of another, which stands for each # in them. */
    Run each(int from, int ahead, String written) {
        for (int i = from; i < ahead; i++) {
            calls(written.replace("#", "" + i));
        }
        return this;
    }

    /** Calls that answer as written and, all together, change nothing that can be asked. */
    Run refused(String written) {
        String before = state();
        calls(written);
        sentences.due("the state behind the refused " + written, state(), before);
        return this;
    }

    /** The one way between two points, asked from both of them. */
    Run way(int a, int b, int weight, int... edges) {
        String there = "way(" + a + ", " + b + ", ";
        String back = "way(" + b + ", " + a + ", ";
        int size = edges.length;
        calls(there + "0) = " + weight + "; " + back + "0) = " + weight);
        calls(there + "1) = " + size + "; " + back + "1) = " + size);
        for (int i = 0; i < size; i++) {
            calls(there + (2 + i) + ") = " + edges[i] + "; " + back + (2 + i) + ") = " + edges[size - 1 - i]);
        }
        return this;
    }

    Run noWay(int a, int b) {
        return each(0, 3, "way(" + a + ", " + b + ", #) = NONE; way(" + b + ", " + a + ", #) = NONE");
    }

    /** All pairs of the pairing that was found last, and no other. */
    Run pairs(int... points) {
        calls("total(3) = " + points.length / 2);
        for (int i = 0; i < points.length; i++) {
            calls("pair(" + i / 2 + ", " + i % 2 + ") = " + points[i]);
        }
        return calls("pair(" + points.length / 2 + ", 0) = NONE; pair(" + points.length / 2 + ", 1) = NONE");
    }

    int callsLeft() {
        return CALL_LIMIT - made;
    }

    private String state() {
        StringBuilder all = new StringBuilder();
        for (int what = 0; what < 5; what++) {
            all.append(answer("total(" + what + ")")).append(' ');
        }
        all.append(answer("least()")).append(' ').append(answer("fix()")).append(' ').append(answer("kept()"));
        for (int i = 0; i < 10; i++) {
            all.append(' ').append(answer("pair(" + i + ", 0)")).append('-').append(answer("pair(" + i + ", 1)"));
        }
        for (int point = 1; point < 20; point++) {
            all.append(' ').append(answer("way(0, " + point + ", 0)"));
        }
        return all.toString();
    }

    private String answer(String call) {
        made++;
        if (made > CALL_LIMIT) {
            sentences.wrong("the test makes more calls than an object has to answer");
        }
        int open = call.indexOf('(');
        String inside = call.substring(open + 1, call.length() - 1).trim();
        String[] values = inside.isEmpty() ? new String[0] : inside.split(",\\s*");
        try {
            return answer(call.substring(0, open), values);
        } catch (RuntimeException e) {
            return "throws." + e.getClass().getSimpleName();
        }
    }

    private String answer(String name, String[] v) {
        switch (name) {
            case "point":
                return "" + decoder.point(Boolean.parseBoolean(v[0]), small(v[1]));
            case "edge":
                return "" + decoder.edge(small(v[0]), small(v[1]), small(v[2]), small(v[3]));
            case "fault":
                return "" + decoder.fault(small(v[0]), small(v[1]), small(v[2]));
            case "fire":
                return "" + decoder.fire(small(v[0]), Boolean.parseBoolean(v[1]));
            case "erase":
                return "" + decoder.erase(small(v[0]), Boolean.parseBoolean(v[1]));
            case "way":
                return "" + decoder.way(small(v[0]), small(v[1]), small(v[2]));
            case "decode":
                return "" + decoder.decode();
            case "pair":
                return "" + decoder.pair(small(v[0]), small(v[1]));
            case "least":
                return "" + decoder.least();
            case "fix":
                return "" + decoder.fix();
            case "signs":
                return "" + decoder.signs(number(v[0]));
            case "syndrome":
                return "" + decoder.syndrome(number(v[0]));
            case "commit":
                return "" + decoder.commit(small(v[0]));
            case "kept":
                return "" + decoder.kept();
            case "total":
                return "" + decoder.total(small(v[0]));
            default:
                throw new IllegalArgumentException("the face has no " + name);
        }
    }

    private static int small(String text) {
        return Math.toIntExact(number(text));
    }

    /** Decimal, 0b.., 2^.., NONE, or the least and greatest int (MIN, MAX) and long (LMIN, LMAX). */
    private static long number(String text) {
        switch (text) {
            case "NONE":
                return -1L;
            case "MIN":
                return Integer.MIN_VALUE;
            case "MAX":
                return Integer.MAX_VALUE;
            case "LMIN":
                return Long.MIN_VALUE;
            case "LMAX":
                return Long.MAX_VALUE;
            default:
                break;
        }
        if (text.startsWith("0b")) {
            return Long.parseLong(text.substring(2), 2);
        }
        return text.startsWith("2^") ? 1L << Integer.parseInt(text.substring(2)) : Long.parseLong(text);
    }
}
