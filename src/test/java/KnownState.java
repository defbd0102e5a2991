/**
 * A state in which everything has been made, and a picture of all that can be asked of an object but fault().
 * Both together stay far below the 512 calls that an object is good for.
 */
final class KnownState {
    /** Places of the state, by what they have. */
    static final int BYTES = 0, SHORTS = 1, INTS = 2, LONGS = 3, DOUBLES = 4, ZEROS = 5, WIDEST = 6, THREE = 7,
        LARGE = 8, SHARED = 9, NOTHING = 10, LAST = 11;

    private KnownState() { }

    static ConvolutionBench made() {
        ConvolutionBench b = new ConvolutionBench();
        make(b);
        return b;
    }

    static void make(Object b) {
        fill(b, BYTES, 0, 3, -1, 4, 1);
        fill(b, SHORTS, 1, -300, 7);
        fill(b, INTS, 2, 5, 0, 0, 2);
        fill(b, LONGS, 3, 1L << 40, -9, 6, 1);
        fill(b, DOUBLES, 4, bits(0.5), bits(-0.0), bits(Double.NEGATIVE_INFINITY), bits(Double.NaN));
        fill(b, ZEROS, 3, 0, 998244353L, -998244353L);
        Calls.on(b, "row", WIDEST, 2, 64);
        Calls.on(b, "put", WIDEST, 63, -8);
        fill(b, THREE, 1, 1, 2, 3);
        fill(b, LARGE, 2, 1 << 30, -(1 << 30));
        Calls.on(b, "share", SHARED, INTS);
        fill(b, LAST, 0, 1, 1, 1, 1);
        Calls.on(b, "transform", INTS, 1);
        Calls.on(b, "multiply", BYTES, SHORTS, 0);
        Calls.on(b, "divide", LONGS, SHORTS, 2);
        Calls.on(b, "match", BYTES, LAST, 1);
        Calls.on(b, "real", SHORTS, DOUBLES);
    }

    private static long bits(double v) {
        return Double.doubleToLongBits(v);
    }

    static void fill(Object b, int p, int lane, long... entries) {
        Calls.on(b, "row", p, lane, entries.length);
        for (int i = 0; i < entries.length; i++) {
            Calls.on(b, "put", p, i, entries[i]);
        }
    }

    /** The last thing to be asked of an object: it puts an entry to see which places share a row. */
    static String picture(Object b) {
        StringBuilder all = new StringBuilder();
        for (int p = 0; p < 12; p++) {
            long n = Calls.on(b, "kind", p, 1);
            all.append("\nplace ").append(p).append(" lane ").append(Calls.on(b, "kind", p, 0)).append(" size ").append(n);
            for (int i = 0; i < n; i++) {
                all.append(' ').append(Calls.on(b, "at", p, i));
            }
        }
        for (int what = 0; what < 7; what++) {
            all.append("\ntold ").append(what).append(' ').append(Calls.on(b, "told", what));
        }
        tellAll(all, b, 0, "value");
        tellAll(all, b, 2, "high");
        tellAll(all, b, 2, "low");
        tellAll(all, b, 3, "residue");
        tellAll(all, b, 4, "rest");
        tellAll(all, b, 5, "matchAt");
        tellAll(all, b, 6, "realAt");
        Calls.on(b, "put", INTS, 0, 77);
        return all.append("\nshared ").append(Calls.on(b, "at", SHARED, 0)).toString();
    }

    private static void tellAll(StringBuilder all, Object b, int what, String name) {
        all.append('\n').append(name);
        long count = Calls.on(b, "told", what);
        for (int i = 0; i < count; i++) {
            all.append(' ').append(Calls.on(b, name, i));
        }
    }
}
