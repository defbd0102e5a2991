import java.util.Arrays;
import java.util.List;
import java.util.Set;
import java.util.TreeSet;

/**
 * One edge that the document names: a call, what is due of it, what fault() tells behind it, and that a call
 * which is refused or comes to a fault changes nothing that can be asked. Each edge is looked at on objects of
 * its own, behind two different faults, so that a fault() which merely stayed is told from one that was due.
 */
final class Edge {
    static final int MIN = Integer.MIN_VALUE, MAX = Integer.MAX_VALUE;
    static final long UNKNOWN = -1, OUTSIDE = -2, STATE = -3, FULL = -4, NONE = -9;
    static final int[] NO_PLACE = {MIN, -1, 12, MAX};
    static final int[] NO_LANE = {MIN, -1, 5, MAX};
    static final int[] NO_PRIME = {MIN, -1, 3, MAX};
    static final int[] NO_WAY = {MIN, -1, 3, MAX};
    static final int[] NO_COUNT = {MIN, -1, 0, 65, MAX};

    private static final List<String> FAULTS = List.of("", "NULL", "CAST", "INDEX", "SIZE", "ZERO");
    private static final Set<String> NAME_FAULTS = Set.of("row", "put", "at", "as", "reverse", "shift", "root", "transform",
        "times", "multiply", "circular", "correlate", "slide", "power", "series", "divide", "evaluate", "interpolate", "match",
        "real");
    private static final Set<String> SEEN = new TreeSet<>();
    private static final String OF_ALL_MADE = KnownState.picture(KnownState.made());
    private static final String OF_A_NEW_ONE = KnownState.picture(new ConvolutionBench());

    private Edge() { }

    /** How a fault is met ahead of the call. */
    private enum Ahead {
        NULL, SIZE;

        int meet(ConvolutionBench b) {
            if (this == NULL) {
                Check.due("the call ahead", b.at(KnownState.NOTHING, 0), 0);
            } else {
                Check.due("the call ahead", b.row(0, 0, -1), -14);
            }
            int fault = this == NULL ? 1 : 4;
            Check.due("the fault ahead", b.fault(), fault);
            return fault;
        }
    }

    /** A call that is refused: told by its word, and answered so. */
    static void refused(int promise, String word, long answer, String name, long... args) {
        SEEN.add(promise + " " + word);
        for (Ahead ahead : Ahead.values()) {
            unchanged(promise, KnownState.made(), OF_ALL_MADE, ahead, answer, 0, name, args);
            // What arguments alone are refused for is told in any state, ahead of all faults.
            if (word.equals("UNKNOWN") || word.equals("OUTSIDE")) {
                unchanged(promise, new ConvolutionBench(), OF_A_NEW_ONE, ahead, answer, 0, name, args);
            }
        }
    }

    /** The same with each of these values at one of the arguments. */
    static void refusedAt(int position, int[] values, int promise, String word, long answer, String name, long... args) {
        for (int value : values) {
            long[] changed = args.clone();
            changed[position] = value;
            refused(promise, word, answer, name, changed);
        }
    }

    /** A call that comes to a fault. */
    static void faulted(int promise, String word, String name, long... args) {
        SEEN.add(promise + " " + word);
        int fault = FAULTS.indexOf(word);
        long answer = Calls.answersLong(name) ? 0 : -10 - fault;
        for (Ahead ahead : Ahead.values()) {
            unchanged(promise, KnownState.made(), OF_ALL_MADE, ahead, answer, fault, name, args);
        }
    }

    private static void unchanged(int promise, ConvolutionBench b, String before, Ahead ahead, long answer, int fault,
            String name, long... args) {
        int stays = ahead.meet(b);
        String call = "promise " + promise + ": " + Calls.text(name, args);
        Check.due(call, Calls.on(b, name, args), answer);
        Check.due("fault() behind " + call, b.fault(), NAME_FAULTS.contains(name) ? fault : stays);
        Check.due("what is there behind " + call, KnownState.picture(b), before);
    }

    /** A call on an object as it stands, behind a fault that changes nothing there, with what is due of it. */
    static void on(ConvolutionBench b, int promise, String word, long answer, String name, long... args) {
        SEEN.add(promise + " " + word);
        String call = "promise " + promise + ": " + Calls.text(name, args);
        int fault = Math.max(0, FAULTS.indexOf(word));
        Check.due("the fault ahead", fault == 5 ? b.row(0, 0, -1) : b.root(0, 3), fault == 5 ? -14 : 0);
        int stays = fault == 5 ? 4 : 5;
        Check.due(call, Calls.on(b, name, args), answer);
        Check.due("fault() behind " + call, b.fault(), NAME_FAULTS.contains(name) ? fault : stays);
    }

    /** A call that is answered, on an object where everything has been made, which is given back. */
    static ConvolutionBench answered(int promise, long answer, String name, long... args) {
        ConvolutionBench b = null;
        for (Ahead ahead : Ahead.values()) {
            b = KnownState.made();
            int stays = ahead.meet(b);
            String call = "promise " + promise + ": " + Calls.text(name, args);
            Check.due(call, Calls.on(b, name, args), answer);
            Check.due("fault() behind " + call, b.fault(), NAME_FAULTS.contains(name) ? 0 : stays);
        }
        return b;
    }

    static boolean isSeen(int promise, String word) {
        return SEEN.contains(promise + " " + word);
    }

    static long[] same(int n, long v) {
        long[] row = new long[n];
        Arrays.fill(row, v);
        return row;
    }

    /** 0s, and an entry at one place. */
    static long[] only(int n, int i, long v) {
        long[] row = new long[n];
        row[i] = v;
        return row;
    }

    /** A new object with a row in place 0, and one in place 1, and so on. */
    static ConvolutionBench with(int lane, long[]... rows) {
        ConvolutionBench b = new ConvolutionBench();
        for (int p = 0; p < rows.length; p++) {
            Bench.fill(b, p, lane, rows[p]);
        }
        return b;
    }
}
