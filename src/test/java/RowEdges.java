/** Edges of promises 1 to 9: a new object, row, share, kind, put, at, as, reverse, shift. */
final class RowEdges {
    private static final int NOTHING = KnownState.NOTHING;

    private RowEdges() { }

    static void look() {
        newObject();
        rowRefused();
        rowInside();
        shareRefused();
        shareInside();
        kind();
        put();
        at();
        asRefused();
        asFaulted();
        reverse();
        shiftRefused();
        shiftAround();
    }

    private static void newObject() {
        for (int p = 0; p < 12; p++) {
            Edge.on(new ConvolutionBench(), 1, "nothing", Edge.NONE, "kind", p, 0);
            Edge.on(new ConvolutionBench(), 1, "NULL", 0, "at", p, 0);
        }
        Edge.on(new ConvolutionBench(), 1, "nothing was made", Edge.STATE, "inverse", 0);
        Edge.on(new ConvolutionBench(), 1, "nothing was made", Edge.STATE, "carry", 0, 10);
    }

    private static void rowRefused() {
        Edge.refusedAt(0, Edge.NO_PLACE, 2, "UNKNOWN", -1, "row", 0, 0, 1);
        Edge.refusedAt(1, Edge.NO_LANE, 2, "OUTSIDE", -2, "row", 0, 0, 1);
        Edge.refused(2, "OUTSIDE", -2, "row", 0, 0, 0);
        Edge.refused(2, "OUTSIDE", -2, "row", 0, 4, 65);
        Edge.refused(2, "OUTSIDE", -2, "row", KnownState.SHARED, 0, Edge.MAX);
        for (int lane = 0; lane < 5; lane++) {
            Edge.faulted(2, "SIZE", "row", KnownState.SHARED, lane, -1);
            Edge.faulted(2, "SIZE", "row", NOTHING, lane, Edge.MIN);
        }
        // The first that fits: UNKNOWN, OUTSIDE, and SIZE behind both.
        Edge.refused(2, "UNKNOWN", -1, "row", 12, 5, 0);
        Edge.refused(2, "UNKNOWN", -1, "row", -1, 0, -1);
        Edge.refusedAt(1, Edge.NO_LANE, 2, "OUTSIDE", -2, "row", 0, 0, -1);
        Edge.refusedAt(1, Edge.NO_LANE, 2, "OUTSIDE", -2, "row", 0, 0, Edge.MIN);
    }

    private static void rowInside() {
        for (int p : new int[] {0, 11}) {
            for (int lane = 0; lane < 5; lane++) {
                for (int n : new int[] {1, 64}) {
                    ConvolutionBench b = Edge.answered(2, 1, "row", p, lane, n);
                    Check.due("its lane", b.kind(p, 0), lane);
                    Check.due("its size", b.kind(p, 1), n);
                    Edge.on(b, 2, "the last entry", 0, "at", p, n - 1);
                    Edge.on(b, 2, "INDEX", 0, "at", p, n);
                }
            }
        }
        ConvolutionBench b = Edge.answered(2, 1, "row", KnownState.SHARED, 1, 2);
        Bench.dueRow("what is new", b, KnownState.SHARED, 1, 0, 0);
        Bench.dueRow("what it was shared with", b, KnownState.INTS, 2, 5, 0, 0, 2);
    }

    private static void shareRefused() {
        Edge.refusedAt(0, Edge.NO_PLACE, 3, "UNKNOWN", -1, "share", 0, 1);
        Edge.refusedAt(1, Edge.NO_PLACE, 3, "UNKNOWN", -1, "share", 0, 1);
        Edge.refused(3, "UNKNOWN", -1, "share", 12, -1);
    }

    private static void shareInside() {
        ConvolutionBench b = Edge.answered(3, 1, "share", 0, 11);
        Bench.dueRow("what place 11 has", b, 0, 0, 1, 1, 1, 1);
        b = Edge.answered(3, 1, "share", 11, 0);
        Bench.dueRow("what place 0 has", b, 11, 0, 3, -1, 4, 1);
        b.put(11, 0, 8);
        b.shift(0, 1);
        b.reverse(11);
        Bench.dueRow("the same row", b, 0, 0, 4, -1, 8, 1);
        b = Edge.answered(3, 1, "share", 0, 0);
        Bench.dueRow("shared with itself", b, 0, 0, 3, -1, 4, 1);
        b = Edge.answered(3, 1, "share", 0, NOTHING);
        Edge.on(b, 3, "nothing", Edge.NONE, "kind", 0, 0);
        Edge.on(b, 3, "NULL", -11, "reverse", 0);
        b = Edge.answered(3, 1, "share", NOTHING, NOTHING);
        Edge.on(b, 3, "nothing", Edge.NONE, "kind", NOTHING, 1);
        // A row outlives the place that it was made in.
        b = Edge.answered(3, 1, "share", KnownState.INTS, NOTHING);
        Bench.dueRow("what is still shared", b, KnownState.SHARED, 2, 5, 0, 0, 2);
    }

    private static void kind() {
        Edge.refusedAt(0, Edge.NO_PLACE, 4, "UNKNOWN", -1, "kind", 0, 0);
        int[] noKind = {Edge.MIN, -1, 2, Edge.MAX};
        Edge.refusedAt(1, noKind, 4, "OUTSIDE", -2, "kind", 0, 0);
        Edge.refusedAt(1, noKind, 4, "OUTSIDE", -2, "kind", NOTHING, 0);
        Edge.refused(4, "UNKNOWN", -1, "kind", 12, 2);
        Edge.refused(4, "NONE", -9, "kind", NOTHING, 0);
        Edge.refused(4, "NONE", -9, "kind", NOTHING, 1);
        for (int lane = 0; lane < 5; lane++) {
            Edge.answered(4, lane, "kind", lane, 0);
        }
        Edge.answered(4, 64, "kind", KnownState.WIDEST, 1);
        Edge.answered(4, 4, "kind", 0, 1);
        Edge.answered(4, 4, "kind", 11, 1);
    }

    private static void put() {
        Edge.refusedAt(0, Edge.NO_PLACE, 5, "UNKNOWN", -1, "put", 0, 0, 5);
        Edge.refused(5, "UNKNOWN", -1, "put", 12, -1, 5);
        Edge.faulted(5, "NULL", "put", NOTHING, 0, 5);
        Edge.faulted(5, "NULL", "put", NOTHING, -1, 5);
        Edge.faulted(5, "NULL", "put", NOTHING, Edge.MAX, 5);
        for (int i : new int[] {Edge.MIN, -1, 4, Edge.MAX}) {
            Edge.faulted(5, "INDEX", "put", 0, i, 5);
            Edge.faulted(5, "INDEX", "put", KnownState.DOUBLES, i, 5);
            Edge.faulted(5, "INDEX", "put", KnownState.SHARED, i, 5);
        }
        Edge.faulted(5, "INDEX", "put", KnownState.WIDEST, 64, 5);
        ConvolutionBench b = Edge.answered(5, 1, "put", 0, 0, Long.MIN_VALUE + 5);
        Bench.dueRow("the first entry", b, 0, 0, 5, -1, 4, 1);
        b = Edge.answered(5, 1, "put", 11, 3, Long.MAX_VALUE - 5);
        Bench.dueRow("the last entry", b, 11, 0, 1, 1, 1, -6);
        b = Edge.answered(5, 1, "put", KnownState.WIDEST, 63, 7);
        Check.due("the last of 64", b.at(KnownState.WIDEST, 63), 7);
        b = Edge.answered(5, 1, "put", KnownState.SHARED, 3, 7);
        Bench.dueRow("a shared row", b, KnownState.INTS, 2, 5, 0, 0, 7);
    }

    private static void at() {
        Edge.refusedAt(0, Edge.NO_PLACE, 6, "UNKNOWN", 0, "at", 0, 0);
        Edge.refused(6, "UNKNOWN", 0, "at", 12, -1);
        Edge.faulted(6, "NULL", "at", NOTHING, 0);
        Edge.faulted(6, "NULL", "at", NOTHING, -1);
        Edge.faulted(6, "NULL", "at", NOTHING, Edge.MAX);
        for (int i : new int[] {Edge.MIN, -1, 4, Edge.MAX}) {
            Edge.faulted(6, "INDEX", "at", 0, i);
            Edge.faulted(6, "INDEX", "at", KnownState.DOUBLES, i);
        }
        Edge.faulted(6, "INDEX", "at", KnownState.WIDEST, 64);
        Edge.answered(6, 3, "at", 0, 0);
        Edge.answered(6, 1, "at", 11, 3);
        Edge.answered(6, -8, "at", KnownState.WIDEST, 63);
        Edge.answered(6, 1L << 40, "at", KnownState.LONGS, 0);
        Edge.answered(6, Bench.NAN, "at", KnownState.DOUBLES, 3);
        Edge.answered(6, Long.MIN_VALUE, "at", KnownState.DOUBLES, 1);
    }

    private static void asRefused() {
        Edge.refusedAt(0, Edge.NO_PLACE, 7, "UNKNOWN", 0, "as", 0, 0, 0);
        Edge.refusedAt(2, Edge.NO_LANE, 7, "OUTSIDE", 0, "as", 0, 0, 0);
        // Refusals are asked ahead of NULL, CAST and INDEX.
        Edge.refusedAt(2, Edge.NO_LANE, 7, "OUTSIDE", 0, "as", NOTHING, 0, 0);
        Edge.refusedAt(2, Edge.NO_LANE, 7, "OUTSIDE", 0, "as", 0, -1, 0);
        Edge.refused(7, "UNKNOWN", 0, "as", 12, 9, 1);
    }

    private static void asFaulted() {
        for (int lane = 0; lane < 5; lane++) {
            for (int other = 0; other < 5; other++) {
                if (other != lane) {
                    Edge.faulted(7, "CAST", "as", lane, 0, other);
                    Edge.faulted(7, "CAST", "as", lane, -1, other);
                    Edge.faulted(7, "CAST", "as", lane, Edge.MAX, other);
                }
            }
            // What is nothing is of no LANE, so no CAST is come to ahead of NULL.
            Edge.faulted(7, "NULL", "as", NOTHING, 0, lane);
            Edge.faulted(7, "NULL", "as", NOTHING, -1, lane);
            Edge.faulted(7, "NULL", "as", NOTHING, Edge.MAX, lane);
            int n = lane == KnownState.SHORTS ? 2 : 4;
            for (int i : new int[] {Edge.MIN, -1, n, Edge.MAX}) {
                Edge.faulted(7, "INDEX", "as", lane, i, lane);
            }
        }
        Edge.answered(7, 3, "as", KnownState.BYTES, 0, 0);
        Edge.answered(7, 7, "as", KnownState.SHORTS, 1, 1);
        Edge.answered(7, 2, "as", KnownState.INTS, 3, 2);
        Edge.answered(7, 1, "as", KnownState.LONGS, 3, 3);
        Edge.answered(7, Bench.NAN, "as", KnownState.DOUBLES, 3, 4);
        Edge.answered(7, 1, "as", 11, 3, 0);
    }

    private static void reverse() {
        Edge.refusedAt(0, Edge.NO_PLACE, 8, "UNKNOWN", -1, "reverse", 0);
        Edge.faulted(8, "NULL", "reverse", NOTHING);
        ConvolutionBench b = Edge.answered(8, 1, "reverse", 0);
        Bench.dueRow("reversed", b, 0, 0, 1, 4, -1, 3);
        b = Edge.answered(8, 1, "reverse", KnownState.SHARED);
        Bench.dueRow("a shared row", b, KnownState.INTS, 2, 2, 0, 0, 5);
        b = Edge.answered(8, 1, "reverse", KnownState.DOUBLES);
        Bench.dueRow("doubles", b, KnownState.DOUBLES, 4, Bench.NAN, 0xfff0000000000000L, Long.MIN_VALUE, 0x3fe0000000000000L);
        b = Edge.answered(8, 1, "reverse", KnownState.WIDEST);
        Bench.dueRow("64 entries", b, KnownState.WIDEST, 2, Edge.only(64, 0, -8));
        Edge.answered(8, 1, "reverse", 11);
        b = Edge.with(3, new long[] {6});
        Edge.on(b, 8, "one entry", 1, "reverse", 0);
        Bench.dueRow("one entry", b, 0, 3, 6);
    }

    private static void shiftRefused() {
        Edge.refusedAt(0, Edge.NO_PLACE, 9, "UNKNOWN", -1, "shift", 0, 1);
        for (int k : new int[] {Edge.MIN, -1, 0, 1, Edge.MAX}) {
            Edge.faulted(9, "NULL", "shift", NOTHING, k);
        }
    }

    private static void dueShift(int n, int k, int to) {
        ConvolutionBench b = Edge.with(3, Edge.only(n, 0, 5));
        Edge.on(b, 9, "around", 1, "shift", 0, k);
        Bench.dueRow(n + " entries, " + k + " on", b, 0, 3, Edge.only(n, to, 5));
    }

    /** 2147483647 leaves 0, 1, 3 and 63 over 1, 3, 4 and 64; -2147483648 leaves 0, 1, 0 and 0. */
    private static void shiftAround() {
        int[][] due = {{1, 0, 0}, {1, 1, 0}, {1, -1, 0}, {1, Edge.MAX, 0}, {1, Edge.MIN, 0},
            {3, 0, 0}, {3, 1, 1}, {3, 2, 2}, {3, 3, 0}, {3, 4, 1}, {3, -1, 2}, {3, -2, 1}, {3, -3, 0}, {3, -4, 2},
            {3, Edge.MAX, 1}, {3, Edge.MIN, 1}, {4, Edge.MAX, 3}, {4, Edge.MIN, 0}, {4, Edge.MIN + 1, 1},
            {64, 63, 63}, {64, 64, 0}, {64, 65, 1}, {64, -63, 1}, {64, -64, 0}, {64, -65, 63},
            {64, Edge.MAX, 63}, {64, Edge.MIN, 0}, {64, Edge.MIN + 1, 1}, {64, Edge.MAX - 1, 62}};
        for (int[] d : due) {
            dueShift(d[0], d[1], d[2]);
        }
        ConvolutionBench b = Edge.answered(9, 1, "shift", KnownState.SHARED, 1);
        Bench.dueRow("a shared row", b, KnownState.INTS, 2, 2, 5, 0, 0);
        b = Edge.answered(9, 1, "shift", KnownState.DOUBLES, -1);
        Bench.dueRow("doubles", b, KnownState.DOUBLES, 4, Long.MIN_VALUE, 0xfff0000000000000L, Bench.NAN, 0x3fe0000000000000L);
        Edge.answered(9, 1, "shift", 0, Edge.MIN);
        Edge.answered(9, 1, "shift", 11, Edge.MAX);
    }
}
