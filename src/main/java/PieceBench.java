import java.util.Arrays;

/**
 * Puts datagrams together from pieces, which come in any order, twice, over one another, and some of them never; a
 * few at a time, none for ever.
 */
public final class PieceBench {
    public static final int NONE = -1;

    private static final int MOST_BYTES = 1480;
    private static final int MOST_FED_AT_ONCE = 8;
    private static final int MOST_WAITING = 4;
    private static final int TICKS_TO_WAIT = 300;
    private static final int MOST_TICKS_AT_ONCE = 1000000;
    private static final int LATEST_TIME = 1000000000;

    private final int[] fed;
    private int fedCount;

    // The first benchCount of them wait, in the order in which their first pieces came: a serial number would tell
    // the order too, but it could wrap round. The rest are free for datagrams to come.
    private final Datagram[] bench;
    private int benchCount;

    // Trades places with a datagram of the bench that becomes whole, so that no bytes are copied and none made.
    private Datagram lastWhole;
    private boolean anyWhole;

    private int time;

    public PieceBench() {
        fed = new int[MOST_BYTES];
        bench = new Datagram[MOST_WAITING];
        for (int place = 0; place < MOST_WAITING; place++) {
            bench[place] = new Datagram();
        }
        lastWhole = new Datagram();
    }

    public int feed(long bytes, int n) throws IllegalArgumentException, IllegalStateException {
        if (n < 1 || n > MOST_FED_AT_ONCE) {
            throw new IllegalArgumentException("n is not 1 .. 8");
        }
        if (n > MOST_BYTES - fedCount) {
            throw new IllegalStateException("more than 1480 bytes would be fed");
        }
        for (int k = 0; k < n; k++) {
            int shift = 8 * (n - 1 - k);
            fed[fedCount + k] = (int) (bytes >>> shift) & 255;
        }
        fedCount += n;
        return fedCount;
    }

    public int piece(int source, int goal, int number, int from, int whole)
            throws IllegalArgumentException, IllegalStateException {
        if (whole < 1 || whole > MOST_BYTES || from < 0) {
            throw new IllegalArgumentException("whole is not 1 .. 1480, or from is less than 0");
        }
        // Not from + fedCount > whole: that sum wraps round when from is very large.
        if (fedCount == 0 || from > whole - fedCount) {
            throw new IllegalStateException("nothing was fed, or the piece goes beyond the whole");
        }
        int count = fedCount;
        fedCount = 0;
        int place = placeOf(source, goal, number);
        if (place == NONE) {
            place = beginOnBench(source, goal, number, whole);
        }
        Datagram datagram = bench[place];
        if (datagram.size != whole) {
            return NONE;
        }
        datagram.take(fed, count, from);
        if (datagram.lacking > 0) {
            return 0;
        }
        finish(place);
        return 1;
    }

    public int pass(int n) throws IllegalArgumentException, IllegalStateException {
        if (n < 0 || n > MOST_TICKS_AT_ONCE) {
            throw new IllegalArgumentException("n is not 0 .. 1000000");
        }
        if (n > LATEST_TIME - time) {
            throw new IllegalStateException("the time would be more than 1000000000");
        }
        time += n;
        return giveUpOverdue();
    }

    public int about(int what) throws IllegalArgumentException, IllegalStateException {
        if (what < 0 || what > 3) {
            throw new IllegalArgumentException("what is not 0 .. 3");
        }
        if (!anyWhole) {
            throw new IllegalStateException("no datagram was whole");
        }
        switch (what) {
            case 0:
                return lastWhole.source;
            case 1:
                return lastWhole.goal;
            case 2:
                return lastWhole.number;
            default:
                return lastWhole.size;
        }
    }

    public int byteAt(int i) throws IllegalStateException, IndexOutOfBoundsException {
        if (!anyWhole) {
            throw new IllegalStateException("no datagram was whole");
        }
        if (i < 0 || i >= lastWhole.size) {
            throw new IndexOutOfBoundsException("the datagram has no such byte");
        }
        return lastWhole.bytes[i];
    }

    public int missing(int source, int goal, int number) {
        int place = placeOf(source, goal, number);
        return place == NONE ? NONE : bench[place].lacking;
    }

    public boolean has(int source, int goal, int number, int i) {
        int place = placeOf(source, goal, number);
        return place != NONE && bench[place].holds(i);
    }

    public int waiting() {
        return benchCount;
    }

    private int placeOf(int source, int goal, int number) {
        for (int place = 0; place < benchCount; place++) {
            if (bench[place].isTold(source, goal, number)) {
                return place;
            }
        }
        return NONE;
    }

    private int beginOnBench(int source, int goal, int number, int whole) {
        if (benchCount == MOST_WAITING) {
            forget(0);
        }
        int place = benchCount;
        bench[place].begin(source, goal, number, whole, time);
        benchCount++;
        return place;
    }

    // Leaves the forgotten one at the first free place, where finish finds it.
    private void forget(int place) {
        Datagram forgotten = bench[place];
        benchCount--;
        for (int k = place; k < benchCount; k++) {
            bench[k] = bench[k + 1];
        }
        bench[benchCount] = forgotten;
    }

    private void finish(int place) {
        forget(place);
        Datagram free = lastWhole;
        lastWhole = bench[benchCount];
        bench[benchCount] = free;
        anyWhole = true;
    }

    // Looks at the first place alone: the others there came later, so none of them is overdue before it.
    private int giveUpOverdue() {
        int givenUp = 0;
        while (givenUp < MOST_WAITING && benchCount > 0 && time - bench[0].since >= TICKS_TO_WAIT) {
            forget(0);
            givenUp++;
        }
        return givenUp;
    }

    private static final class Datagram {
        private static final int NOT_COME = -1;

        private final int[] bytes;
        private int source;
        private int goal;
        private int number;
        private int size;
        private int lacking;
        private int since;

        private Datagram() {
            bytes = new int[MOST_BYTES];
        }

        private void begin(int newSource, int newGoal, int newNumber, int newSize, int now) {
            source = newSource;
            goal = newGoal;
            number = newNumber;
            size = newSize;
            lacking = newSize;
            since = now;
            Arrays.fill(bytes, NOT_COME);
        }

        private boolean isTold(int itsSource, int itsGoal, int itsNumber) {
            return source == itsSource && goal == itsGoal && number == itsNumber;
        }

        // The caller has seen to it that the piece lies within the size.
        private void take(int[] piece, int count, int from) {
            for (int k = 0; k < count; k++) {
                if (bytes[from + k] == NOT_COME) {
                    bytes[from + k] = piece[k];
                    lacking--;
                }
            }
        }

        private boolean holds(int i) {
            return i >= 0 && i < size && bytes[i] != NOT_COME;
        }
    }
}
