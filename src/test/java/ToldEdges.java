/** Edges of promises 35 and 36: fault, told. */
final class ToldEdges {
    /** The calls that name FAULTS, each with arguments that it is answered for in the known state. */
    private static final String[] NAMING = {"row 0 0 1", "put 0 0 1", "at 0 0", "as 0 0 0", "reverse 0", "shift 0 1",
        "root 0 1", "transform 0 0", "times 0", "multiply 0 1 1", "circular 0 1 1", "correlate 0 1", "slide 0 1",
        "power 0 0 1 1", "series 0 0 1", "divide 0 1 0", "evaluate 0 1 0", "interpolate 0 0 0", "match 0 1 0", "real 0 1"};

    /** Those that name none: answered, and refused where that can be. */
    private static final String[] NAMING_NONE = {"share 0 0", "share 12 0", "share 0 12", "kind 0 0", "kind 10 0", "kind 12 0",
        "kind 0 2", "value 0", "value -1", "inverse 0", "inverse 12", "high 0", "high -1", "low 0", "low -1", "carry 0 10",
        "carry 12 10", "carry 0 1", "cost 0 1 1", "cost 3 1 1", "cost 0 0 1", "plan 1 1", "plan 0 1", "residue 0", "residue -1",
        "rest 0", "rest -1", "matchAt 0", "matchAt -1", "realAt 0", "realAt -1", "fault", "told 0", "told -1", "told 7"};

    private ToldEdges() { }

    static void look() {
        faultAheadOfAny();
        faultOfEachKind();
        faultIsGoneBehindAnAnswer();
        faultStaysBehindOtherCalls();
        faultIsGoneBehindState();
        told();
        toldOfNothing();
        toldOfTheMost();
    }

    private static void faultAheadOfAny() {
        Check.due("fault() of a new object", new ConvolutionBench().fault(), 0);
        // A call that names none is not any: 0 still.
        for (String call : NAMING_NONE) {
            ConvolutionBench b = new ConvolutionBench();
            Calls.told(b, call);
            Check.due("fault() behind " + call + " of a new object", b.fault(), 0);
        }
    }

    private static void faultOfEachKind() {
        String[] calls = {"at 10 0", "as 0 0 1", "at 0 4", "row 0 0 -1", "root 0 3"};
        for (int kind = 1; kind <= 5; kind++) {
            for (int before = 1; before <= 5; before++) {
                ConvolutionBench b = KnownState.made();
                Calls.told(b, calls[before - 1]);
                Calls.told(b, calls[kind - 1]);
                Check.due("fault() behind " + calls[kind - 1], b.fault(), kind);
                Check.due("fault() asked again", b.fault(), kind);
            }
        }
    }

    private static void faultIsGoneBehindAnAnswer() {
        for (String call : NAMING) {
            for (String ahead : new String[] {"at 10 0", "as 0 0 1", "put 0 4 1", "row 0 0 -1", "series 5 0 1"}) {
                ConvolutionBench b = KnownState.made();
                Check.holds("a fault ahead", Calls.told(b, ahead) <= 0 && b.fault() != 0);
                Check.holds(call + " is answered", Calls.told(b, call) >= 0);
                Check.due("fault() behind " + call, b.fault(), 0);
            }
        }
    }

    private static void faultStaysBehindOtherCalls() {
        for (String call : NAMING_NONE) {
            ConvolutionBench b = KnownState.made();
            Calls.told(b, "root 0 3");
            Calls.told(b, call);
            Check.due("fault() behind " + call, b.fault(), 5);
        }
        ConvolutionBench b = KnownState.made();
        Calls.told(b, "root 0 3");
        Calls.told(b, "slide 6 1");
        Calls.told(b, "root 0 3");
        Calls.told(b, "slide 11 1");
        Calls.told(b, "root 0 3");
        Check.due("carry, answered", Calls.told(b, "carry 0 10"), 4);
        Check.due("fault() behind carry", b.fault(), 5);
    }

    private static void faultIsGoneBehindState() {
        for (String call : new String[] {"transform 7 0", "times 1", "multiply 8 8 1", "interpolate 0 1 0"}) {
            ConvolutionBench b = KnownState.made();
            Calls.told(b, "root 0 3");
            Check.due(call, Calls.told(b, call), -3);
            Check.due("fault() behind " + call, b.fault(), 0);
        }
    }

    private static void told() {
        for (int what : new int[] {Edge.MIN, -1, 7, Edge.MAX}) {
            Edge.refused(36, "OUTSIDE", -2, "told", what);
        }
        long[] due = {4, 1, 5, 3, 1, 1, 5};
        for (int what = 0; what < 7; what++) {
            Edge.answered(36, due[what], "told", what);
        }
    }

    private static void toldOfNothing() {
        long[] due = {0, -9, 0, 0, 0, 0, 0};
        for (int what = 0; what < 7; what++) {
            Edge.on(new ConvolutionBench(), 36, what == 1 ? "NONE" : "none", due[what], "told", what);
        }
        for (int prime = 0; prime < 3; prime++) {
            ConvolutionBench b = Edge.with(2, new long[] {1});
            b.transform(0, prime);
            Edge.on(b, 36, "the prime", prime, "told", 1);
            Edge.on(b, 36, "one value", 1, "told", 0);
        }
        // What came to nothing is told as none, also behind more.
        ConvolutionBench b = KnownState.made();
        Calls.told(b, "slide 1 3");
        Calls.told(b, "divide 1 0 0");
        Calls.told(b, "match 1 0 0");
        Edge.on(b, 36, "no entries", 0, "told", 2);
        Edge.on(b, 36, "no residues", 0, "told", 3);
        Edge.on(b, 36, "three rests", 3, "told", 4);
        Edge.on(b, 36, "no fits", 0, "told", 5);
    }

    private static void toldOfTheMost() {
        ConvolutionBench b = new ConvolutionBench();
        b.row(0, 0, 64);
        b.row(1, 0, 1);
        b.put(0, 63, 1);
        b.put(1, 0, 1);
        b.transform(0, 0);
        b.multiply(0, 0, 2);
        b.real(0, 0);
        b.match(0, 1, 1);
        b.divide(0, 1, 0);
        long[] due = {64, 0, 127, 64, 0, 64, 127};
        for (int what = 0; what < 7; what++) {
            Edge.on(b, 36, "the most", due[what], "told", what);
        }
        b.divide(1, 0, 0);
        Edge.on(b, 36, "the most", 63, "told", 4);
    }
}
