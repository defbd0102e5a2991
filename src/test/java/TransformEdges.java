/** Edges of promises 10 to 14: root, transform, times, value, inverse. */
final class TransformEdges {
    private static final int NOTHING = KnownState.NOTHING;

    private TransformEdges() { }

    static void look() {
        rootRefused();
        rootInside();
        transformRefused();
        transformOfLengths();
        timesRefused();
        timesState();
        value();
        inverseRefused();
        inverseInside();
    }

    private static void rootRefused() {
        Edge.refusedAt(0, Edge.NO_PRIME, 10, "UNKNOWN", 0, "root", 0, 1);
        for (int prime = 0; prime < 3; prime++) {
            Edge.refusedAt(1, Edge.NO_COUNT, 10, "OUTSIDE", 0, "root", prime, 1);
            Edge.faulted(10, "ZERO", "root", prime, 3);
            Edge.faulted(10, "ZERO", "root", prime, 63);
        }
        // P - 1 is 2 to the 23 times 7 times 17; 2 to the 21 times 479; 2 to the 26 times 7.
        Edge.faulted(10, "ZERO", "root", 1, 7);
        Edge.faulted(10, "ZERO", "root", 1, 17);
        Edge.faulted(10, "ZERO", "root", 2, 17);
        Edge.faulted(10, "ZERO", "root", 0, 49);
        Edge.faulted(10, "ZERO", "root", 2, 49);
        // Refusals are asked ahead of ZERO.
        Edge.refusedAt(0, Edge.NO_PRIME, 10, "UNKNOWN", 0, "root", 0, 3);
        Edge.refused(10, "UNKNOWN", 0, "root", 3, 0);
    }

    private static void rootInside() {
        for (int prime = 0; prime < 3; prime++) {
            Edge.answered(10, 1, "root", prime, 1);
            Edge.answered(10, Bench.PRIMES[prime] - 1, "root", prime, 2);
        }
        Edge.answered(10, 922799308, "root", 0, 64);
        Edge.answered(10, 89059135, "root", 1, 64);
        Edge.answered(10, 210853138, "root", 2, 64);
        Edge.answered(10, 949458275, "root", 0, 34);
        Edge.answered(10, 6900502, "root", 2, 56);
    }

    private static void transformRefused() {
        Edge.refusedAt(0, Edge.NO_PLACE, 11, "UNKNOWN", -1, "transform", 0, 0);
        Edge.refusedAt(1, Edge.NO_PRIME, 11, "UNKNOWN", -1, "transform", 0, 0);
        Edge.refusedAt(1, Edge.NO_PRIME, 11, "UNKNOWN", -1, "transform", NOTHING, 0);
        Edge.refusedAt(1, Edge.NO_PRIME, 11, "UNKNOWN", -1, "transform", KnownState.DOUBLES, 0);
        Edge.refused(11, "UNKNOWN", -1, "transform", 12, 3);
        for (int prime = 0; prime < 3; prime++) {
            Edge.faulted(11, "NULL", "transform", NOTHING, prime);
            Edge.faulted(11, "CAST", "transform", KnownState.DOUBLES, prime);
            Edge.refused(11, "STATE", -3, "transform", KnownState.THREE, prime);
            Edge.refused(11, "STATE", -3, "transform", KnownState.ZEROS, prime);
        }
        Edge.answered(11, 4, "transform", 0, 0);
        Edge.answered(11, 4, "transform", 11, 2);
        Edge.answered(11, 4, "transform", KnownState.LONGS, 1);
    }

    private static void dueLength(int n, int prime, boolean divides) {
        ConvolutionBench b = Edge.with(0, Edge.only(n, 0, -1));
        if (divides) {
            Edge.on(b, 11, "a length", n, "transform", 0, prime);
            Bench.dueSpectrum("of " + n, b, Edge.same(n, Bench.PRIMES[prime] - 1));
            Check.due("its prime", b.told(1), prime);
        } else {
            Edge.on(b, 11, "STATE", -3, "transform", 0, prime);
            Bench.dueSpectrum("none", b);
            Check.due("no prime", b.told(1), -9);
        }
    }

    private static void transformOfLengths() {
        for (int prime = 0; prime < 3; prime++) {
            dueLength(1, prime, true);
            dueLength(2, prime, true);
            dueLength(3, prime, false);
            dueLength(63, prime, false);
            dueLength(64, prime, true);
        }
        dueLength(7, 0, true);
        dueLength(7, 1, false);
        dueLength(7, 2, true);
        dueLength(17, 0, true);
        dueLength(17, 1, false);
        dueLength(17, 2, false);
        // Value j is the sum over i of x(i) w to the i j: a 1 at place 1 tells the powers of w.
        ConvolutionBench b = Edge.with(3, Edge.only(64, 1, 1));
        Edge.on(b, 11, "a length", 64, "transform", 0, 0);
        Check.due("value(0)", b.value(0), 1);
        Check.due("value(1)", b.value(1), 922799308);
        Check.due("value(32)", b.value(32), 998244352);
        Check.due("value(63) by value(1)", b.value(63) * b.value(1) % 998244353, 1);
    }

    private static void timesRefused() {
        Edge.refusedAt(0, Edge.NO_PLACE, 12, "UNKNOWN", -1, "times", 0);
        Edge.faulted(12, "NULL", "times", NOTHING);
        Edge.faulted(12, "CAST", "times", KnownState.DOUBLES);
        Edge.refused(12, "STATE", -3, "times", KnownState.SHORTS);
        Edge.refused(12, "STATE", -3, "times", KnownState.THREE);
        Edge.refused(12, "STATE", -3, "times", KnownState.WIDEST);
        Edge.answered(12, 4, "times", 0);
        Edge.answered(12, 4, "times", 11);
        Edge.answered(12, 4, "times", KnownState.LONGS);
    }

    private static void timesState() {
        // One entry more, and one less, than THE SPECTRUM has values.
        ConvolutionBench b = Edge.with(2, new long[] {1, 2}, new long[] {3}, new long[] {4, 5, 6});
        Edge.on(b, 12, "STATE", -3, "times", 0);
        Edge.on(b, 11, "a length", 2, "transform", 0, 0);
        Edge.on(b, 12, "STATE", -3, "times", 1);
        Edge.on(b, 12, "STATE", -3, "times", 2);
        Edge.on(b, 12, "as many", 2, "times", 0);
        Bench.dueSpectrum("squares", b, 9, 1);
        // Three entries have no ROOT, but a row that was refused there leaves THE SPECTRUM.
        Edge.on(b, 11, "STATE", -3, "transform", 2, 0);
        Bench.dueSpectrum("squares still", b, 9, 1);
        Check.due("no spectrum, and nothing there", new ConvolutionBench().times(0), -11);
        b = Edge.with(4, new long[] {0});
        Edge.on(b, 12, "CAST", -12, "times", 0);
        b = Edge.with(2, new long[] {-2});
        Edge.on(b, 11, "a length", 1, "transform", 0, 2);
        Edge.on(b, 12, "as many", 1, "times", 0);
        Bench.dueSpectrum("of one entry", b, 4);
        b = Edge.with(1, Edge.only(64, 0, -2));
        Edge.on(b, 11, "a length", 64, "transform", 0, 1);
        Edge.on(b, 12, "as many", 64, "times", 0);
        Bench.dueSpectrum("of 64", b, Edge.same(64, 4));
    }

    private static void value() {
        for (int i : new int[] {Edge.MIN, -1, 4, Edge.MAX}) {
            Edge.refused(13, "UNKNOWN", -1, "value", i);
        }
        Edge.on(new ConvolutionBench(), 13, "UNKNOWN", -1, "value", 0);
        Edge.answered(13, 7, "value", 0);
        ConvolutionBench b = Edge.with(2, Edge.only(64, 0, 3));
        b.transform(0, 0);
        Edge.on(b, 13, "the last", 3, "value", 63);
        Edge.on(b, 13, "UNKNOWN", -1, "value", 64);
    }

    private static void inverseRefused() {
        Edge.refusedAt(0, Edge.NO_PLACE, 14, "UNKNOWN", -1, "inverse", 0);
        for (int p : new int[] {0, 11}) {
            ConvolutionBench b = new ConvolutionBench();
            Bench.fill(b, p, 2, 4, 5);
            Edge.on(b, 14, "STATE", -3, "inverse", p);
            Bench.dueRow("what STATE leaves", b, p, 2, 4, 5);
        }
    }

    private static void inverseInside() {
        for (int p : new int[] {0, NOTHING, 11}) {
            ConvolutionBench b = Edge.answered(14, 4, "inverse", p);
            Bench.dueRow("there and back", b, p, 3, 5, 0, 0, 2);
            Check.due("the spectrum stays", b.told(0), 4);
        }
        ConvolutionBench b = Edge.answered(14, 4, "inverse", KnownState.SHARED);
        b.put(KnownState.SHARED, 0, 6);
        Bench.dueRow("a new row, shared no more", b, KnownState.INTS, 2, 5, 0, 0, 2);
        long[][] rows = {{-1}, {Long.MIN_VALUE, Long.MAX_VALUE}};
        b = Edge.with(3, rows);
        b.transform(0, 2);
        Edge.on(b, 14, "one entry", 1, "inverse", 2);
        Bench.dueRow("residues all", b, 2, 3, 469762048);
        b.transform(1, 0);
        Edge.on(b, 14, "two entries", 2, "inverse", 2);
        Bench.dueRow("residues all", b, 2, 3, 532218398, 466025954);
        b = Edge.with(2, Edge.only(64, 63, -1));
        b.transform(0, 1);
        Edge.on(b, 14, "64 entries", 64, "inverse", 0);
        Bench.dueRow("residues all", b, 0, 3, Edge.only(64, 63, 1004535808));
    }
}
