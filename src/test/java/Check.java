import java.util.function.LongSupplier;

/** Counts what is not as due, and the short ways in which the tests call a PieceBench. */
final class Check {
    private int wrong;

    void same(String what, long got, long due) {
        same(what, Long.toString(got), Long.toString(due));
    }

    void same(String what, boolean got, boolean due) {
        same(what, Boolean.toString(got), Boolean.toString(due));
    }

    void same(String what, String got, String due) {
        if (!got.equals(due)) {
            wrong++;
            System.out.println(what + " answered " + got + ", due is " + due);
        }
    }

    void refused(String what, Class<? extends RuntimeException> due, Runnable call) {
        String got = answer(() -> {
            call.run();
            return 0;
        });
        same(what, got, "throws " + due.getName());
    }

    /** The very class is told: what the machine throws by itself is mostly a class below the one that is due. */
    static String answer(LongSupplier call) {
        try {
            return Long.toString(call.getAsLong());
        } catch (RuntimeException e) {
            return "throws " + e.getClass().getName();
        }
    }

    void end() {
        if (wrong != 0) {
            System.out.println(wrong + " answers are not as due");
            System.exit(1);
        }
    }

    /** Feeds count bytes, eight in a call: first, first + 1, and so on, round from 255 to 0. */
    static void feed(PieceBench bench, int first, int count) {
        int done = 0;
        while (done < count) {
            int n = Math.min(8, count - done);
            long bytes = 0;
            for (int k = 0; k < n; k++) {
                bytes = (bytes << 8) | ((first + done + k) & 255);
            }
            bench.feed(bytes, n);
            done += n;
        }
    }

    /** A piece of the datagram (source, 0, 0) comes, with count bytes from first on. */
    static int send(PieceBench bench, int source, int from, int whole, int first, int count) {
        feed(bench, first, count);
        return bench.piece(source, 0, 0, from, whole);
    }

    /** One byte of a datagram of two, so that it waits. */
    static int start(PieceBench bench, int source) {
        return send(bench, source, 0, 2, source, 1);
    }

    /** Four datagrams wait, of the sources 1 to 4. */
    static void startFour(PieceBench bench) {
        for (int source = 1; source <= 4; source++) {
            start(bench, source);
        }
    }

    static int missing(PieceBench bench, int source) {
        return bench.missing(source, 0, 0);
    }
}
