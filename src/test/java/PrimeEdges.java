/** Edges of promises 24 to 30: power, series, divide, evaluate, interpolate, residue, rest. */
final class PrimeEdges {
    private static final int NOTHING = KnownState.NOTHING, BYTES = KnownState.BYTES, SHORTS = KnownState.SHORTS,
        INTS = KnownState.INTS, LONGS = KnownState.LONGS, DOUBLES = KnownState.DOUBLES, ZEROS = KnownState.ZEROS,
        THREE = KnownState.THREE;
    private static final long P0 = 998244353L, P1 = 1004535809L, P2 = 469762049L;

    private PrimeEdges() { }

    static void look() {
        powerRefused();
        powerInside();
        seriesRefused();
        seriesZero();
        seriesInside();
        divideRefused();
        divideZero();
        divideByDegrees();
        evaluateRefused();
        evaluateInside();
        interpolateRefused();
        interpolateZero();
        interpolateInside();
        residueAndRest();
    }

    /** UNKNOWN of both places and the prime, NULL ahead of CAST, CAST: DOUBLES. */
    private static void pairRefused(int promise, String name) {
        Edge.refusedAt(0, Edge.NO_PLACE, promise, "UNKNOWN", -1, name, INTS, INTS, 0);
        Edge.refusedAt(1, Edge.NO_PLACE, promise, "UNKNOWN", -1, name, INTS, INTS, 0);
        Edge.refusedAt(2, Edge.NO_PRIME, promise, "UNKNOWN", -1, name, INTS, INTS, 0);
        Edge.refusedAt(1, Edge.NO_PLACE, promise, "UNKNOWN", -1, name, NOTHING, 0, 0);
        Edge.refusedAt(2, Edge.NO_PRIME, promise, "UNKNOWN", -1, name, DOUBLES, NOTHING, 0);
        Edge.refusedAt(2, Edge.NO_PRIME, promise, "UNKNOWN", -1, name, ZEROS, ZEROS, 0);
        for (int prime = 0; prime < 3; prime++) {
            Edge.faulted(promise, "NULL", name, NOTHING, INTS, prime);
            Edge.faulted(promise, "NULL", name, INTS, NOTHING, prime);
            Edge.faulted(promise, "NULL", name, NOTHING, NOTHING, prime);
            Edge.faulted(promise, "NULL", name, DOUBLES, NOTHING, prime);
            Edge.faulted(promise, "NULL", name, NOTHING, DOUBLES, prime);
            Edge.faulted(promise, "CAST", name, DOUBLES, INTS, prime);
            Edge.faulted(promise, "CAST", name, INTS, DOUBLES, prime);
            Edge.faulted(promise, "CAST", name, DOUBLES, DOUBLES, prime);
        }
    }

    private static void powerRefused() {
        Edge.refusedAt(0, Edge.NO_PLACE, 24, "UNKNOWN", -1, "power", 0, 0, 1, 1);
        Edge.refusedAt(1, Edge.NO_PRIME, 24, "UNKNOWN", -1, "power", 0, 0, 1, 1);
        int[] noPower = {Edge.MIN, -1, 1001, Edge.MAX};
        Edge.refusedAt(2, noPower, 24, "OUTSIDE", -2, "power", 0, 0, 1, 1);
        Edge.refusedAt(3, Edge.NO_COUNT, 24, "OUTSIDE", -2, "power", 0, 2, 1000, 1);
        // UNKNOWN is asked ahead of OUTSIDE, and that ahead of NULL and CAST.
        Edge.refusedAt(1, Edge.NO_PRIME, 24, "UNKNOWN", -1, "power", NOTHING, 0, -1, 0);
        Edge.refusedAt(0, Edge.NO_PLACE, 24, "UNKNOWN", -1, "power", 0, 0, 1001, 65);
        Edge.refusedAt(2, noPower, 24, "OUTSIDE", -2, "power", NOTHING, 0, 1, 1);
        Edge.refusedAt(3, Edge.NO_COUNT, 24, "OUTSIDE", -2, "power", DOUBLES, 0, 1, 1);
        for (int k : new int[] {0, 1000}) {
            for (int n : new int[] {1, 64}) {
                Edge.faulted(24, "NULL", "power", NOTHING, 0, k, n);
                Edge.faulted(24, "CAST", "power", DOUBLES, 2, k, n);
            }
        }
    }

    private static void powerInside() {
        long[] oneAnd63 = Edge.only(64, 0, 1);
        for (int p : new int[] {BYTES, SHORTS, INTS, LONGS, ZEROS, 11}) {
            ConvolutionBench b = Edge.answered(24, 64, "power", p, 0, 0, 64);
            Bench.dueResidues("k = 0: 1, then 0s", b, oneAnd63);
            b = Edge.answered(24, 1, "power", p, 2, 0, 1);
            Bench.dueResidues("k = 0 and n = 1", b, 1);
        }
        ConvolutionBench b = Edge.answered(24, 3, "power", ZEROS, 0, 1, 3);
        Bench.dueResidues("0s over the prime", b, 0, 0, 0);
        b = Edge.answered(24, 3, "power", ZEROS, 1, 1, 3);
        Bench.dueResidues("not 0s over another", b, 0, P0, P1 - P0);
        b = Edge.answered(24, 2, "power", LONGS, 2, 1, 2);
        Bench.dueResidues("fewer than the row has", b, (1L << 40) % P2, P2 - 9);
        b = Edge.answered(24, 6, "power", INTS, 2, 1, 6);
        Bench.dueResidues("more than the row has", b, 5, 0, 0, 2, 0, 0);
        b = Edge.with(0, new long[] {2}, new long[] {1, 1}, new long[] {0, 1}, new long[] {-1});
        Edge.on(b, 24, "the last k", 3, "power", 0, 0, 1000, 3);
        Bench.dueResidues("2 to the 1000", b, 23226277, 0, 0);
        Edge.on(b, 24, "the last k", 1, "power", 0, 1, 1000, 1);
        Bench.dueResidues("2 to the 1000", b, 236397249);
        Edge.on(b, 24, "the last k", 1, "power", 0, 2, 1000, 1);
        Bench.dueResidues("2 to the 1000", b, 242987189);
        Edge.on(b, 24, "the last k", 3, "power", 1, 0, 1000, 3);
        Bench.dueResidues("1 and 1 to the 1000", b, 1, 1000, 499500);
        Edge.on(b, 24, "the last n", 64, "power", 2, 1, 63, 64);
        Bench.dueResidues("just inside", b, Edge.only(64, 63, 1));
        Edge.on(b, 24, "the last n", 64, "power", 2, 1, 64, 64);
        Bench.dueResidues("just outside", b, new long[64]);
        Edge.on(b, 24, "odd", 1, "power", 3, 1, 999, 1);
        Bench.dueResidues("-1 to the 999", b, P1 - 1);
        Edge.on(b, 24, "even", 1, "power", 3, 1, 1000, 1);
        Bench.dueResidues("-1 to the 1000", b, 1);
    }

    private static void seriesRefused() {
        Edge.refusedAt(0, Edge.NO_PLACE, 25, "UNKNOWN", -1, "series", 0, 0, 1);
        Edge.refusedAt(1, Edge.NO_PRIME, 25, "UNKNOWN", -1, "series", 0, 0, 1);
        Edge.refusedAt(2, Edge.NO_COUNT, 25, "OUTSIDE", -2, "series", 0, 0, 1);
        // UNKNOWN is asked ahead of OUTSIDE, and that ahead of NULL, CAST and ZERO.
        Edge.refusedAt(1, Edge.NO_PRIME, 25, "UNKNOWN", -1, "series", NOTHING, 0, 0);
        Edge.refusedAt(0, Edge.NO_PLACE, 25, "UNKNOWN", -1, "series", 0, 0, 65);
        Edge.refusedAt(2, Edge.NO_COUNT, 25, "OUTSIDE", -2, "series", NOTHING, 0, 1);
        Edge.refusedAt(2, Edge.NO_COUNT, 25, "OUTSIDE", -2, "series", DOUBLES, 0, 1);
        Edge.refusedAt(2, Edge.NO_COUNT, 25, "OUTSIDE", -2, "series", ZEROS, 0, 1);
        for (int n : new int[] {1, 64}) {
            Edge.faulted(25, "NULL", "series", NOTHING, 0, n);
            Edge.faulted(25, "CAST", "series", DOUBLES, 1, n);
            Edge.faulted(25, "ZERO", "series", ZEROS, 2, n);
        }
        // A double 0.0 as ENTRY 0: CAST is come to ahead of ZERO.
        ConvolutionBench b = Edge.with(4, new long[] {0, 1});
        Edge.on(b, 25, "CAST", -12, "series", 0, 0, 1);
    }

    private static void seriesZero() {
        long[] primes = {P0, P1, P2};
        for (int at = 0; at < 3; at++) {
            for (long zero : new long[] {0, primes[at], -primes[at], 2 * primes[at], primes[at] * primes[at]}) {
                ConvolutionBench b = Edge.with(3, new long[] {zero, 1});
                Edge.on(b, 25, "ZERO", -15, "series", 0, at, 2);
                Bench.dueResidues("what ZERO leaves", b);
                if (zero != 0) {
                    Edge.on(b, 25, "not 0 over another", 2, "series", 0, (at + 1) % 3, 2);
                }
            }
            for (long near : new long[] {primes[at] + 1, 1 - primes[at]}) {
                ConvolutionBench b = Edge.with(3, new long[] {near, 0});
                Edge.on(b, 25, "1 over the prime", 1, "series", 0, at, 1);
                Bench.dueResidues("1 over the prime", b, 1);
            }
        }
    }

    private static void seriesInside() {
        ConvolutionBench b = Edge.with(0, new long[] {1, -1}, new long[] {-1}, new long[] {2, 0, 0});
        Edge.on(b, 25, "the last n", 64, "series", 0, 0, 64);
        Bench.dueResidues("1s all", b, Edge.same(64, 1));
        Edge.on(b, 25, "the first n", 1, "series", 0, 1, 1);
        Bench.dueResidues("1", b, 1);
        Edge.on(b, 25, "more than the row has", 3, "series", 1, 2, 3);
        Bench.dueResidues("-1, then 0s", b, P2 - 1, 0, 0);
        Edge.on(b, 25, "fewer than the row has", 2, "series", 2, 0, 2);
        Bench.dueResidues("a half", b, 499122177, 0);
        Edge.answered(25, 64, "series", 0, 2, 64);
        Edge.answered(25, 64, "series", 11, 0, 64);
        Edge.answered(25, 1, "series", LONGS, 0, 1);
    }

    private static void divideRefused() {
        pairRefused(26, "divide");
        Edge.faulted(26, "ZERO", "divide", INTS, ZEROS, 0);
        Edge.faulted(26, "ZERO", "divide", ZEROS, ZEROS, 0);
        // NULL and CAST are come to ahead of ZERO.
        Edge.faulted(26, "NULL", "divide", NOTHING, ZEROS, 0);
        Edge.faulted(26, "CAST", "divide", DOUBLES, ZEROS, 0);
        ConvolutionBench b = Edge.answered(26, 1, "divide", 0, 11, 0);
        Bench.dueResidues("places 0 and 11", b, 1);
        Bench.dueRests("places 0 and 11", b, 2, P0 - 2, 3);
        b = Edge.answered(26, 1, "divide", 11, 0, 2);
        Bench.dueResidues("places 11 and 0", b, 1);
        Bench.dueRests("places 11 and 0", b, P2 - 2, 2, P2 - 3);
    }

    private static void divideZero() {
        ConvolutionBench b = Edge.with(3, new long[] {5, 6, 7}, new long[] {0}, new long[] {P1}, new long[] {P2, -P2, 0},
            new long[] {P0 * P1, 0});
        Edge.on(b, 26, "ZERO", -15, "divide", 0, 1, 0);
        Edge.on(b, 26, "ZERO", -15, "divide", 0, 2, 1);
        Edge.on(b, 26, "ZERO", -15, "divide", 0, 3, 2);
        Edge.on(b, 26, "ZERO", -15, "divide", 0, 4, 0);
        Edge.on(b, 26, "ZERO", -15, "divide", 0, 4, 1);
        Bench.dueResidues("what ZERO leaves", b);
        Bench.dueRests("what ZERO leaves", b);
        Edge.on(b, 26, "not 0 over another", 3, "divide", 0, 2, 0);
        Edge.on(b, 26, "not 0 over another", 2, "divide", 0, 3, 1);
        Edge.on(b, 26, "not 0 over another", 3, "divide", 0, 4, 2);
        // Only b is asked for: a of 0s alone is divided.
        Edge.on(b, 26, "0s by another", 1, "divide", 1, 2, 0);
        Bench.dueResidues("0s by another", b, 0);
    }

    private static void dueDivide(long[] x, long[] y, long[] quotient, long... rest) {
        ConvolutionBench b = Edge.with(3, x, y);
        Edge.on(b, 26, "a degree", quotient.length, "divide", 0, 1, 0);
        Bench.dueResidues("the quotient", b, quotient);
        Bench.dueRests("the rest", b, rest);
    }

    /** "as many as a has ENTRIES more than b's degree, but none if that is not above 0", "as many as b's degree". */
    private static void divideByDegrees() {
        long[] none = {};
        long[] x = {7, 5, 3};
        dueDivide(x, new long[] {1}, x);
        dueDivide(x, new long[] {-1, 0, P0}, new long[] {P0 - 7, P0 - 5, P0 - 3});
        dueDivide(x, new long[] {0, 1}, new long[] {5, 3}, 7);
        dueDivide(x, new long[] {0, 0, 1}, new long[] {3}, 7, 5);
        dueDivide(x, new long[] {0, 0, 1, -P0}, new long[] {3}, 7, 5);
        dueDivide(x, new long[] {0, 0, 0, 1}, none, 7, 5, 3);
        dueDivide(x, new long[] {9, 9, 9, 9, 1}, none, 7, 5, 3, 0);
        dueDivide(x, new long[] {9, 9, 9, 9, 1, 0, 2 * P0}, none, 7, 5, 3, 0);
        dueDivide(new long[] {-1}, new long[] {0, 1}, none, P0 - 1);
        dueDivide(new long[] {-1}, new long[] {-1}, new long[] {1});
        // a's own last ENTRIES count, be they 0 or not.
        dueDivide(new long[] {7, 0, 0}, new long[] {0, 1}, new long[] {0, 0}, 7);
        dueDivide(new long[] {7, P0, -P0}, new long[] {0, 1}, new long[] {0, 0}, 7);
        dueDivide(Edge.only(64, 63, 2), Edge.only(64, 63, 1), new long[] {2}, new long[63]);
        dueDivide(Edge.only(64, 63, 2), Edge.only(64, 0, 2), Edge.only(64, 63, 1));
        dueDivide(new long[] {6}, Edge.only(64, 63, 1), none, Edge.only(63, 0, 6));
        ConvolutionBench b = Edge.with(3, new long[] {3, 4, 5});
        Edge.on(b, 26, "by itself", 1, "divide", 0, 0, 1);
        Bench.dueResidues("by itself", b, 1);
        Bench.dueRests("by itself", b, 0, 0);
    }

    private static void evaluateRefused() {
        pairRefused(27, "evaluate");
        ConvolutionBench b = Edge.answered(27, 4, "evaluate", 0, 11, 0);
        Bench.dueResidues("places 0 and 11", b, 7, 7, 7, 7);
        b = Edge.answered(27, 4, "evaluate", 11, 0, 2);
        Bench.dueResidues("places 11 and 0", b, 40, 0, 85, 4);
        Edge.answered(27, 3, "evaluate", LONGS, ZEROS, 1);
    }

    private static void evaluateInside() {
        ConvolutionBench b = Edge.with(3, new long[] {-6}, new long[] {0, 1}, Edge.same(64, -1), Edge.only(64, 63, 1));
        Edge.on(b, 27, "one point", 1, "evaluate", 3, 0, 0);
        Edge.on(b, 27, "a constant", 64, "evaluate", 0, 2, 1);
        Bench.dueResidues("a constant", b, Edge.same(64, P1 - 6));
        Edge.on(b, 27, "64 points that are alike", 64, "evaluate", 1, 2, 2);
        Bench.dueResidues("themselves", b, Edge.same(64, P2 - 1));
        Edge.on(b, 27, "the last degree", 2, "evaluate", 3, 1, 0);
        Bench.dueResidues("at 0 and 1", b, 0, 1);
        Edge.on(b, 27, "the last degree", 64, "evaluate", 3, 2, 0);
        Bench.dueResidues("-1 to the 63", b, Edge.same(64, P0 - 1));
        Edge.on(b, 27, "64 entries at themselves", 64, "evaluate", 2, 2, 0);
        Bench.dueResidues("as many 1s as -1s", b, new long[64]);
    }

    private static void interpolateRefused() {
        pairRefused(28, "interpolate");
        Edge.refused(28, "STATE", -3, "interpolate", BYTES, SHORTS, 0);
        Edge.refused(28, "STATE", -3, "interpolate", SHORTS, BYTES, 0);
        // ZERO is told behind STATE, and that behind NULL and CAST.
        Edge.refused(28, "STATE", -3, "interpolate", INTS, THREE, 0);
        Edge.refused(28, "STATE", -3, "interpolate", ZEROS, INTS, 0);
        Edge.faulted(28, "CAST", "interpolate", SHORTS, DOUBLES, 0);
        Edge.faulted(28, "CAST", "interpolate", DOUBLES, SHORTS, 0);
        Edge.faulted(28, "NULL", "interpolate", INTS, NOTHING, 0);
        Edge.faulted(28, "ZERO", "interpolate", INTS, BYTES, 1);
        Edge.faulted(28, "ZERO", "interpolate", 11, 0, 1);
        Edge.faulted(28, "ZERO", "interpolate", ZEROS, THREE, 0);
        Edge.answered(28, 4, "interpolate", 0, 11, 0);
        Edge.answered(28, 3, "interpolate", ZEROS, THREE, 1);
        Edge.answered(28, 4, "interpolate", LONGS, LONGS, 2);
        // One value less, and one more, than there are points.
        ConvolutionBench b = Edge.with(2, new long[] {1, 2}, new long[] {1}, new long[] {1, 2, 3});
        Edge.on(b, 28, "STATE", -3, "interpolate", 0, 1, 0);
        Edge.on(b, 28, "STATE", -3, "interpolate", 0, 2, 0);
        Edge.on(b, 28, "as many", 2, "interpolate", 0, 0, 0);
    }

    private static void dueTwins(long... points) {
        ConvolutionBench b = Edge.with(3, points, new long[points.length]);
        Edge.on(b, 28, "ZERO", -15, "interpolate", 0, 1, 0);
        Bench.dueResidues("what ZERO leaves", b);
    }

    private static void interpolateZero() {
        dueTwins(4, 4);
        dueTwins(4, 4 + P0);
        dueTwins(-1, P0 - 1);
        dueTwins(0, -P0);
        dueTwins(1, 2, 1);
        dueTwins(1, 2, 3, 3 - P0);
        dueTwins(7, 8, 7 + 3 * P0, 9);
        long[] many = new long[64];
        for (int i = 0; i < 64; i++) {
            many[i] = i;
        }
        many[63] = P0;
        dueTwins(many);
        // Alike over one PRIME, but not over the others.
        ConvolutionBench b = Edge.with(3, new long[] {4, 4 + P0}, new long[] {6, 6});
        Edge.on(b, 28, "ZERO", -15, "interpolate", 0, 1, 0);
        Edge.on(b, 28, "apart", 2, "interpolate", 0, 1, 1);
        Bench.dueResidues("a constant", b, 6, 0);
        Edge.on(b, 28, "apart", 2, "interpolate", 0, 1, 2);
    }

    private static void interpolateInside() {
        ConvolutionBench b = Edge.with(3, new long[] {Long.MIN_VALUE}, new long[] {-4}, new long[] {-1, 0, 1},
            new long[] {1, 0, 1});
        Edge.on(b, 28, "one point", 1, "interpolate", 0, 1, 2);
        Bench.dueResidues("a constant", b, P2 - 4);
        Edge.on(b, 28, "three points", 3, "interpolate", 2, 3, 0);
        Bench.dueResidues("a square", b, 0, 0, 1);
        Edge.on(b, 28, "of less degree", 3, "interpolate", 2, 2, 0);
        Bench.dueResidues("0s behind", b, 0, 1, 0);
        long[] many = new long[64];
        long[] squares = new long[64];
        for (int i = 0; i < 64; i++) {
            many[i] = i - 32;
            squares[i] = (i - 32) * (i - 32);
        }
        b = Edge.with(3, many, squares);
        Edge.on(b, 28, "64 points", 64, "interpolate", 0, 1, 1);
        Bench.dueResidues("64 points", b, Edge.only(64, 2, 1));
    }

    private static void residueAndRest() {
        for (int i : new int[] {Edge.MIN, -1, 3, Edge.MAX}) {
            Edge.refused(29, "UNKNOWN", -1, "residue", i);
        }
        for (int i : new int[] {Edge.MIN, -1, 1, Edge.MAX}) {
            Edge.refused(30, "UNKNOWN", -1, "rest", i);
        }
        Edge.on(new ConvolutionBench(), 29, "UNKNOWN", -1, "residue", 0);
        Edge.on(new ConvolutionBench(), 30, "UNKNOWN", -1, "rest", 0);
        Edge.answered(29, 449218817, "residue", 0);
        Edge.answered(29, 402653185, "residue", 2);
        Edge.answered(30, 212370153, "rest", 0);
        ConvolutionBench b = Edge.with(3, Edge.only(64, 63, 5), Edge.only(64, 63, 1), new long[] {1});
        b.divide(0, 2, 0);
        Edge.on(b, 29, "the last of 64", 5, "residue", 63);
        Edge.on(b, 29, "UNKNOWN", -1, "residue", 64);
        Edge.on(b, 30, "UNKNOWN", -1, "rest", 0);
        b.divide(0, 1, 0);
        Edge.on(b, 30, "the last of 63", 0, "rest", 62);
        Edge.on(b, 30, "UNKNOWN", -1, "rest", 63);
        Edge.on(b, 29, "the only one", 5, "residue", 0);
        Edge.on(b, 29, "UNKNOWN", -1, "residue", 1);
        b.divide(2, 1, 0);
        Edge.on(b, 29, "UNKNOWN", -1, "residue", 0);
        Edge.on(b, 30, "the first of 63", 1, "rest", 0);
    }
}
