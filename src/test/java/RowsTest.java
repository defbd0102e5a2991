/** Promises 1 to 9: a new object, row, share, kind, put, at, as, reverse, shift. */
public final class RowsTest {
    public static void main(String[] args) {
        newObject();
        row();
        share();
        kind();
        put();
        at();
        as();
        reverse();
        shift();
        Check.end();
    }

    private static void newObject() {
        ConvolutionBench b = new ConvolutionBench();
        Check.due("fault() of a new object", b.fault(), 0);
        for (int p = 0; p < 12; p++) {
            Check.due("kind(" + p + ", 0)", b.kind(p, 0), -9);
            Check.due("kind(" + p + ", 1)", b.kind(p, 1), -9);
        }
        int[] told = {0, -9, 0, 0, 0, 0, 0};
        for (int what = 0; what < told.length; what++) {
            Check.due("told(" + what + ")", b.told(what), told[what]);
        }
        Check.due("value(0)", b.value(0), -1);
        Check.due("high(0)", b.high(0), 0);
        Check.due("low(0)", b.low(0), 0);
        Check.due("residue(0)", b.residue(0), -1);
        Check.due("rest(0)", b.rest(0), -1);
        Check.due("matchAt(0)", b.matchAt(0), -9);
        Check.due("realAt(0)", b.realAt(0), Bench.NAN);
    }

    private static void row() {
        ConvolutionBench b = new ConvolutionBench();
        for (int lane = 0; lane < 5; lane++) {
            Bench.dueFault("row(11, " + lane + ", 64)", b, b.row(11, lane, 64), 1, 0);
            Bench.dueRow("a new row", b, 11, lane, new long[64]);
            Check.due("row(0, " + lane + ", 1)", b.row(0, lane, 1), 1);
            Bench.dueRow("a new row", b, 0, lane, 0);
        }
        Bench.fill(b, 0, 2, 1, 2, 3);
        Bench.dueFault("row(-1, 9, -1)", b, b.row(-1, 9, -1), -1, 0);
        Bench.dueFault("row(12, 0, 1)", b, b.row(12, 0, 1), -1, 0);
        Bench.dueFault("row(0, 0, -1)", b, b.row(0, 0, -1), Bench.SIZE, 4);
        Bench.dueFault("row(0, -1, -1)", b, b.row(0, -1, -1), -2, 0);
        Bench.dueFault("row(0, 4, MIN)", b, b.row(0, 4, Integer.MIN_VALUE), Bench.SIZE, 4);
        Bench.dueFault("row(0, 5, 1)", b, b.row(0, 5, 1), -2, 0);
        Bench.dueFault("row(0, 0, 0)", b, b.row(0, 0, 0), -2, 0);
        Bench.dueFault("row(0, 0, 65)", b, b.row(0, 0, 65), -2, 0);
        Bench.dueRow("what was there", b, 0, 2, 1, 2, 3);
        Check.due("row(0, 1, 2)", b.row(0, 1, 2), 1);
        Bench.dueRow("what is new", b, 0, 1, 0, 0);
    }

    private static void share() {
        ConvolutionBench b = new ConvolutionBench();
        Bench.fill(b, 3, 2, 1, 2, 3);
        Check.due("share(5, 3)", b.share(5, 3), 1);
        Check.due("put(5, 1, 9)", b.put(5, 1, 9), 1);
        Bench.dueRow("the shared row", b, 3, 2, 1, 9, 3);
        Check.due("reverse(3)", b.reverse(3), 1);
        Bench.dueRow("the shared row", b, 5, 2, 3, 9, 1);
        Check.due("row(3, 0, 1)", b.row(3, 0, 1), 1);
        Bench.dueRow("what stays shared no more", b, 5, 2, 3, 9, 1);
        Check.due("share(5, 5)", b.share(5, 5), 1);
        Bench.dueRow("shared with itself", b, 5, 2, 3, 9, 1);
        Check.due("share(12, 5)", b.share(12, 5), -1);
        Check.due("share(-1, 5)", b.share(-1, 5), -1);
        Check.due("share(5, 12)", b.share(5, 12), -1);
        Check.due("share(5, -1)", b.share(5, -1), -1);
        Bench.dueRow("what refusals leave", b, 5, 2, 3, 9, 1);
        b.at(11, 0);
        Check.due("share(5, 11)", b.share(5, 11), 1);
        Check.due("kind(5, 0)", b.kind(5, 0), -9);
        Check.due("fault() behind share", b.fault(), 1);
        b.share(12, 0);
        Check.due("fault() behind a refused share", b.fault(), 1);
    }

    private static void kind() {
        ConvolutionBench b = new ConvolutionBench();
        b.row(2, 3, 7);
        b.at(0, 0);
        Check.due("kind(2, 0)", b.kind(2, 0), 3);
        Check.due("kind(2, 1)", b.kind(2, 1), 7);
        Check.due("kind(2, 2)", b.kind(2, 2), -2);
        Check.due("kind(2, -1)", b.kind(2, -1), -2);
        Check.due("kind(0, 2)", b.kind(0, 2), -2);
        Check.due("kind(0, 1)", b.kind(0, 1), -9);
        Check.due("kind(12, 2)", b.kind(12, 2), -1);
        Check.due("kind(-1, 0)", b.kind(-1, 0), -1);
        Check.due("fault() behind kind", b.fault(), 1);
    }

    private static void put() {
        ConvolutionBench b = new ConvolutionBench();
        long[] given = {0, -1, 127, 128, 255, 256, 32767, 32768, 65535, 1L << 31, (1L << 31) - 1, 1L << 32,
            Long.MAX_VALUE, Long.MIN_VALUE, 0x7ff0000000000000L, 0xfff0000000000000L, 0x7ff0000000000001L,
            0xfff8000000000000L, 0x7fffffffffffffffL, 0x8000000000000000L, 0x123456789abcdefL, 1L};
        for (int lane = 0; lane < 5; lane++) {
            ConvolutionBench c = new ConvolutionBench();
            c.row(lane, lane, 3);
            for (long v : given) {
                Bench.dueFault("put(" + lane + ", 1, " + v + ")", c, c.put(lane, 1, v), 1, 0);
                long want = lane == 0 ? (byte) v : lane == 1 ? (short) v : lane == 2 ? (int) v : lane == 3 ? v
                    : Double.doubleToLongBits(Double.longBitsToDouble(v));
                Bench.dueRow("behind put " + v, c, lane, lane, 0, want, 0);
            }
        }
        Bench.fill(b, 0, 0, 0, 1, 0);
        Bench.dueFault("put(0, 3, 1)", b, b.put(0, 3, 1), Bench.INDEX, 3);
        Bench.dueFault("put(0, -1, 1)", b, b.put(0, -1, 1), Bench.INDEX, 3);
        Bench.dueFault("put(0, MIN, 1)", b, b.put(0, Integer.MIN_VALUE, 1), Bench.INDEX, 3);
        Bench.dueFault("put(-1, 0, 1)", b, b.put(-1, 0, 1), -1, 0);
        Bench.dueFault("put(7, 9, 1)", b, b.put(7, 9, 1), Bench.NULL, 1);
        Bench.dueFault("put(12, 0, 1)", b, b.put(12, 0, 1), -1, 0);
        Bench.dueRow("what faults leave", b, 0, 0, 0, 1, 0);
    }

    private static void at() {
        ConvolutionBench b = new ConvolutionBench();
        Bench.fill(b, 0, 1, -5, 6);
        Bench.dueFault("at(0, 0)", b, b.at(0, 0), -5, 0);
        Bench.dueFault("at(0, 2)", b, b.at(0, 2), 0, 3);
        Bench.dueFault("at(0, 1)", b, b.at(0, 1), 6, 0);
        Bench.dueFault("at(0, -1)", b, b.at(0, -1), 0, 3);
        Bench.dueFault("at(12, 0)", b, b.at(12, 0), 0, 0);
        Bench.dueFault("at(1, 99)", b, b.at(1, 99), 0, 1);
        Bench.dueFault("at(-1, 0)", b, b.at(-1, 0), 0, 0);
    }

    private static void as() {
        ConvolutionBench b = new ConvolutionBench();
        for (int lane = 0; lane < 5; lane++) {
            Bench.fill(b, lane, lane, 4, 5);
            for (int other = 0; other < 5; other++) {
                String call = "as(" + lane + ", 1, " + other + ")";
                Bench.dueFault(call, b, b.as(lane, 1, other), lane == other ? 5 : 0, lane == other ? 0 : 2);
            }
        }
        Bench.dueFault("as(0, 2, 0)", b, b.as(0, 2, 0), 0, 3);
        Bench.dueFault("as(0, -1, 0)", b, b.as(0, -1, 0), 0, 3);
        Bench.dueFault("as(0, 2, 1)", b, b.as(0, 2, 1), 0, 2);
        Bench.dueFault("as(0, 0, 5)", b, b.as(0, 0, 5), 0, 0);
        Bench.dueFault("as(9, 77, 1)", b, b.as(9, 77, 1), 0, 1);
        Bench.dueFault("as(9, 0, -1)", b, b.as(9, 0, -1), 0, 0);
        Bench.dueFault("as(0, 0, 3)", b, b.as(0, 0, 3), 0, 2);
        Bench.dueFault("as(12, 0, 0)", b, b.as(12, 0, 0), 0, 0);
    }

    private static void reverse() {
        ConvolutionBench b = new ConvolutionBench();
        Bench.fill(b, 0, 3, 1, 2, 3, 4);
        Bench.dueFault("reverse(0)", b, b.reverse(0), 1, 0);
        Bench.dueRow("reversed", b, 0, 3, 4, 3, 2, 1);
        Bench.fill(b, 0, 4, 1, 2, 3);
        b.reverse(0);
        Bench.dueRow("reversed", b, 0, 4, 3, 2, 1);
        Bench.fill(b, 0, 0, 7);
        b.reverse(0);
        Bench.dueRow("reversed", b, 0, 0, 7);
        Bench.dueFault("reverse(1)", b, b.reverse(1), Bench.NULL, 1);
        Bench.dueFault("reverse(12)", b, b.reverse(12), -1, 0);
        Bench.dueFault("reverse(-1)", b, b.reverse(-1), -1, 0);
    }

    private static void shift() {
        ConvolutionBench b = new ConvolutionBench();
        Bench.fill(b, 0, 2, 1, 2, 3, 4, 5);
        Bench.dueFault("shift(0, 2)", b, b.shift(0, 2), 1, 0);
        Bench.dueRow("two on", b, 0, 2, 4, 5, 1, 2, 3);
        b.shift(0, -2);
        Bench.dueRow("two back", b, 0, 2, 1, 2, 3, 4, 5);
        b.shift(0, -1);
        Bench.dueRow("one back", b, 0, 2, 2, 3, 4, 5, 1);
        b.shift(0, 0);
        b.shift(0, 5);
        b.shift(0, -10);
        Bench.dueRow("around", b, 0, 2, 2, 3, 4, 5, 1);
        b.shift(0, 11);
        Bench.dueRow("around and one on", b, 0, 2, 1, 2, 3, 4, 5);
        int[] far = {Integer.MAX_VALUE, Integer.MIN_VALUE, Integer.MIN_VALUE + 1};
        for (int n = 1; n <= 64; n++) {
            ConvolutionBench c = new ConvolutionBench();
            for (int k : far) {
                c.row(1, 3, n);
                c.put(1, 0, 1);
                Check.due("shift(1, " + k + ")", c.shift(1, k), 1);
                Check.due("shifted by " + k + " of " + n, c.at(1, Math.floorMod(k, n)), 1);
            }
        }
        Bench.dueFault("shift(2, 1)", b, b.shift(2, 1), Bench.NULL, 1);
        Bench.dueFault("shift(12, 1)", b, b.shift(12, 1), -1, 0);
    }
}
