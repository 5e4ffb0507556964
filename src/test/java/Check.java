/** Counts what is not as due, and the short ways in which the tests call a PieceBench. */
final class Check {
    private int wrong;

    void same(String what, long got, long due) {
        same(what, Long.toString(got), Long.toString(due));
    }

    void same(String what, boolean got, boolean due) {
        same(what, Boolean.toString(got), Boolean.toString(due));
    }

    void same(String what, String got, String due) {
        if (!got.equals(due)) {
            wrong++;
            System.out.println(what + " answered " + got + ", due is " + due);
        }
    }

    /** The very class is asked for: what the machine throws by itself is mostly a class below it. */
    void refused(String what, Class<? extends RuntimeException> due, Runnable call) {
        String got = "throws nothing";
        try {
            call.run();
        } catch (RuntimeException e) {
            got = e.getClass().getName();
        }
        same(what, got, due.getName());
    }

    void end() {
        if (wrong != 0) {
            System.out.println(wrong + " answers are not as due");
            System.exit(1);
        }
    }

    /** Feeds count bytes, eight in a call: first, first + 1, and so on, round from 255 to 0. */
    static void feed(PieceBench bench, int first, int count) {
        int done = 0;
        while (done < count) {
            int n = Math.min(8, count - done);
            long bytes = 0;
            for (int k = 0; k < n; k++) {
                bytes = (bytes << 8) | ((first + done + k) & 255);
            }
            bench.feed(bytes, n);
            done += n;
        }
    }

    /** A piece of the datagram (source, 0, 0) comes, with count bytes from first on. */
    static int send(PieceBench bench, int source, int from, int whole, int first, int count) {
        feed(bench, first, count);
        return bench.piece(source, 0, 0, from, whole);
    }

    /** One byte of a datagram of two, so that it waits. */
    static int start(PieceBench bench, int source) {
        return send(bench, source, 0, 2, source, 1);
    }

    static int missing(PieceBench bench, int source) {
        return bench.missing(source, 0, 0);
    }

    /** Feeds 1480 bytes in 185 calls. */
    static void feedFull(PieceBench bench, long bytes) {
        for (int k = 0; k < 185; k++) {
            bench.feed(bytes, 8);
        }
    }
}
