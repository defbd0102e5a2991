/** What tests share: filling rows, and reading whole results. */
final class Bench {
    static final int NULL = -11, CAST = -12, INDEX = -13, SIZE = -14, ZERO = -15;
    static final int BYTES = 0, SHORTS = 1, INTS = 2, LONGS = 3, DOUBLES = 4;
    static final long[] PRIMES = {998244353L, 1004535809L, 469762049L};
    static final long NAN = Double.doubleToLongBits(Double.NaN);

    private Bench() { }

    static void fill(ConvolutionBench b, int p, int lane, long... entries) {
        Check.due("row(" + p + ", " + lane + ", " + entries.length + ")", b.row(p, lane, entries.length), 1);
        for (int i = 0; i < entries.length; i++) {
            Check.due("put(" + p + ", " + i + ", " + entries[i] + ")", b.put(p, i, entries[i]), 1);
        }
    }

    static void fillDoubles(ConvolutionBench b, int p, double... entries) {
        long[] bits = new long[entries.length];
        for (int i = 0; i < entries.length; i++) {
            bits[i] = Double.doubleToRawLongBits(entries[i]);
        }
        fill(b, p, DOUBLES, bits);
    }

    static void dueRow(String what, ConvolutionBench b, int p, int lane, long... entries) {
        Check.due(what + " lane", b.kind(p, 0), lane);
        Check.due(what + " size", b.kind(p, 1), entries.length);
        for (int i = 0; i < entries.length; i++) {
            Check.due(what + " at " + i, b.at(p, i), entries[i]);
        }
    }

    static void dueSpectrum(String what, ConvolutionBench b, long... values) {
        Check.due(what + " count", b.told(0), values.length);
        for (int i = 0; i < values.length; i++) {
            Check.due(what + " value " + i, b.value(i), values[i]);
        }
        Check.due(what + " value behind", b.value(values.length), -1);
        Check.due(what + " value ahead", b.value(-1), -1);
    }

    /** Entries that fit a long. */
    static void dueProduct(String what, ConvolutionBench b, long... entries) {
        Check.due(what + " count", b.told(2), entries.length);
        for (int i = 0; i < entries.length; i++) {
            Check.due(what + " high " + i, b.high(i), entries[i] < 0 ? -1 : 0);
            Check.due(what + " low " + i, b.low(i), entries[i]);
        }
        Check.due(what + " high behind", b.high(entries.length), 0);
        Check.due(what + " low behind", b.low(entries.length), 0);
    }

    static void dueResidues(String what, ConvolutionBench b, long... entries) {
        Check.due(what + " count", b.told(3), entries.length);
        for (int i = 0; i < entries.length; i++) {
            Check.due(what + " residue " + i, b.residue(i), entries[i]);
        }
        Check.due(what + " residue behind", b.residue(entries.length), -1);
        Check.due(what + " residue ahead", b.residue(-1), -1);
    }

    static void dueRests(String what, ConvolutionBench b, long... entries) {
        Check.due(what + " rests", b.told(4), entries.length);
        for (int i = 0; i < entries.length; i++) {
            Check.due(what + " rest " + i, b.rest(i), entries[i]);
        }
        Check.due(what + " rest behind", b.rest(entries.length), -1);
        Check.due(what + " rest ahead", b.rest(-1), -1);
    }

    static void dueFits(String what, ConvolutionBench b, int... places) {
        Check.due(what + " fits", b.told(5), places.length);
        for (int i = 0; i < places.length; i++) {
            Check.due(what + " fit " + i, b.matchAt(i), places[i]);
        }
        Check.due(what + " fit behind", b.matchAt(places.length), -9);
        Check.due(what + " fit ahead", b.matchAt(-1), -9);
    }

    static void dueReals(String what, ConvolutionBench b, double... entries) {
        Check.due(what + " reals", b.told(6), entries.length);
        for (int i = 0; i < entries.length; i++) {
            Check.due(what + " real " + i, b.realAt(i), Double.doubleToLongBits(entries[i]));
        }
        Check.due(what + " real behind", b.realAt(entries.length), NAN);
        Check.due(what + " real ahead", b.realAt(-1), NAN);
    }

    /** The answer of a call that names faults, and what fault() tells behind it. */
    static void dueFault(String call, ConvolutionBench b, long got, long want, int fault) {
        Check.due(call, got, want);
        Check.due("fault() behind " + call, b.fault(), fault);
    }
}
