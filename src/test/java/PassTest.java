/** Promise 4. */
public final class PassTest {
    public static void main(String[] args) {
        Check check = new Check();
        answersHowManyWereGivenUp(check);
        takesTicksFrom0To1000000(check);
        refusesOtherTicks(check);
        comesUpToTheLatestTime(check);
        refusesALaterTime(check);
        check.end();
    }

    private static void answersHowManyWereGivenUp(Check check) {
        check.same("none of a new one", new PieceBench().pass(1000000), 0);
        for (int count = 1; count <= 4; count++) {
            PieceBench bench = new PieceBench();
            for (int source = 1; source <= count; source++) {
                Check.start(bench, source);
            }
            check.same("one tick too few for " + count, bench.pass(299), 0);
            check.same("all of " + count, bench.pass(1), count);
            check.same("none is given up twice", bench.pass(300), 0);
        }
        PieceBench bench = new PieceBench();
        for (int source = 1; source <= 4; source++) {
            Check.start(bench, source);
            bench.pass(10);
        }
        Check.send(bench, 2, 1, 2, 0, 1);
        check.same("pass up to 300 of the first", bench.pass(260), 1);
        check.same("missing of 1", Check.missing(bench, 1), PieceBench.NONE);
        check.same("missing of 3", Check.missing(bench, 3), 1);
        check.same("one that was whole is not given up", bench.pass(10), 0);
        check.same("pass far beyond", bench.pass(1000000), 2);
        check.same("waiting", bench.waiting(), 0);
        check.same("about the one that was whole", bench.about(0), 2);
    }

    /** "Illegal argument: n is not 0 .. 1000000": just inside. */
    private static void takesTicksFrom0To1000000(Check check) {
        for (Scene scene : Scene.all()) {
            Scene later = new Scene("after a pass of 0", () -> {
                PieceBench bench = scene.make();
                bench.pass(0);
                return bench;
            });
            later.sameAs(check, scene);
        }
        check.same("a pass of 0", Scene.BUSY.make().pass(0), 0);
        check.same("a pass of 1", Scene.BUSY.make().pass(1), 0);
        check.same("a pass of 999999", Scene.BUSY.make().pass(999999), 4);
        check.same("a pass of 1000000", Scene.BUSY.make().pass(1000000), 4);
        // So many ticks went by, no fewer: the next datagram waits its 300 from there on.
        PieceBench bench = new PieceBench();
        for (int k = 0; k < 490; k++) {
            check.same("pass " + k + " of 1000000", bench.pass(1000000), 0);
        }
        Check.start(bench, 1);
        check.same("299 ticks then", bench.pass(299), 0);
        check.same("300 ticks then", bench.pass(1), 1);
    }

    /** Just outside, and the extremes. */
    private static void refusesOtherTicks(Check check) {
        int[] wrong = {-1, 1000001, -300, 1000000001, Integer.MIN_VALUE, Integer.MAX_VALUE};
        for (Scene scene : Scene.all()) {
            for (int n : wrong) {
                scene.refuses(check, "pass of " + n, IllegalArgumentException.class, bench -> bench.pass(n));
            }
        }
    }

    /**
     * "Illegal state: the time would be more than 1000000000": just inside. It takes more than 512 calls to come
     * there, so that the document promises nothing; the class keeps to it all the same.
     */
    private static void comesUpToTheLatestTime(Check check) {
        PieceBench bench = ticksBeforeTheLatest(1000000);
        Check.start(bench, 1);
        check.same("the last 1000000", bench.pass(1000000), 1);
        check.same("0 more", bench.pass(0), 0);
        check.same("a datagram at the latest time", Check.start(bench, 2), 0);
        check.same("0 more then", bench.pass(0), 0);
        check.same("waiting", bench.waiting(), 1);
    }

    /** Just outside; and the illegal argument is thrown first. */
    private static void refusesALaterTime(Check check) {
        PieceBench bench = ticksBeforeTheLatest(299);
        Check.start(bench, 1);
        int[] late = {300, 301, 1000000};
        for (int n : late) {
            check.refused("a pass of " + n, IllegalStateException.class, () -> bench.pass(n));
        }
        int[] wrong = {-1, 1000001, Integer.MIN_VALUE, Integer.MAX_VALUE};
        for (int n : wrong) {
            check.refused("a late pass of " + n, IllegalArgumentException.class, () -> bench.pass(n));
        }
        check.same("waiting after the refusals", bench.waiting(), 1);
        check.same("missing after the refusals", Check.missing(bench, 1), 1);
        check.same("the last 299", bench.pass(299), 0);
        check.refused("1 more", IllegalStateException.class, () -> bench.pass(1));
        check.same("waiting at the latest time", bench.waiting(), 1);
        check.same("0 more", bench.pass(0), 0);
    }

    private static PieceBench ticksBeforeTheLatest(int ticks) {
        PieceBench bench = new PieceBench();
        for (int k = 0; k < 999; k++) {
            bench.pass(1000000);
        }
        bench.pass(1000000 - ticks);
        return bench;
    }
}
