/** Promise 7. */
public final class MissingTest {
    private static final int LEAST = Integer.MIN_VALUE;
    private static final int MOST = Integer.MAX_VALUE;
    private static final int NONE = PieceBench.NONE;

    public static void main(String[] args) {
        Check check = new Check();
        countsWhatHasNotCome(check);
        tellsFrom1To1479(check);
        isNoneOfOneThatNeverCame(check);
        isNoneOfOneThatWasForgotten(check);
        check.end();
    }

    private static void countsWhatHasNotCome(Check check) {
        PieceBench bench = new PieceBench();
        Check.send(bench, 1, 10, 20, 0, 4);
        check.same("missing after 4 of 20", Check.missing(bench, 1), 16);
        Check.send(bench, 1, 10, 20, 0, 4);
        check.same("missing after the same again", Check.missing(bench, 1), 16);
        Check.send(bench, 1, 12, 20, 0, 4);
        check.same("missing after two over, two new", Check.missing(bench, 1), 14);
        Check.send(bench, 1, 9, 20, 0, 8);
        check.same("missing after one new at each end", Check.missing(bench, 1), 12);
        Check.send(bench, 1, 0, 20, 0, 9);
        Check.send(bench, 1, 18, 20, 0, 2);
        check.same("missing with one hole", Check.missing(bench, 1), 1);
        Check.send(bench, 1, 17, 20, 0, 1);
        check.same("missing of a whole one", Check.missing(bench, 1), NONE);
    }

    /** The most and the least that can be missing of one that waits. */
    private static void tellsFrom1To1479(Check check) {
        PieceBench bench = new PieceBench();
        Check.send(bench, 1, 700, 1480, 0, 1);
        check.same("missing of the largest", Check.missing(bench, 1), 1479);
        Check.send(bench, 1, 0, 1480, 0, 1479);
        check.same("missing but the last byte", Check.missing(bench, 1), 1);
        Check.send(bench, 2, 1, 2, 0, 1);
        check.same("missing of the smallest that can wait", Check.missing(bench, 2), 1);
    }

    /** "NONE if it does not wait": another name, or one whose piece was refused. */
    private static void isNoneOfOneThatNeverCame(Check check) {
        PieceBench bench = new PieceBench();
        bench.feed(0, 4);
        check.same("missing of one that is only fed", bench.missing(1, 2, 3), NONE);
        check.refused("a piece beyond its whole", IllegalStateException.class, () -> bench.piece(1, 2, 3, 0, 3));
        check.same("missing of one that was refused", bench.missing(1, 2, 3), NONE);
        bench.piece(1, 2, 3, 0, 20);
        check.same("missing of it", bench.missing(1, 2, 3), 16);
        int[] others = {0, -1, 4, LEAST, MOST};
        for (int other : others) {
            check.same("missing of another source", bench.missing(other, 2, 3), NONE);
            check.same("missing of another goal", bench.missing(1, other, 3), NONE);
            check.same("missing of another number", bench.missing(1, 2, other), NONE);
        }
        check.same("missing of the three turned round", bench.missing(3, 2, 1), NONE);
        bench.feed(0, 1);
        bench.piece(LEAST, MOST, LEAST, 0, 5);
        check.same("missing of extremes", bench.missing(LEAST, MOST, LEAST), 4);
        check.same("missing of other extremes", bench.missing(MOST, LEAST, MOST), NONE);
    }

    private static void isNoneOfOneThatWasForgotten(Check check) {
        PieceBench bench = new PieceBench();
        Check.send(bench, 1, 0, 1, 0, 1);
        check.same("missing of one whole at once", Check.missing(bench, 1), NONE);
        Check.startFour(bench);
        check.same("missing of the earliest of four", Check.missing(bench, 1), 1);
        Check.start(bench, 5);
        check.same("missing of one driven out", Check.missing(bench, 1), NONE);
        bench.pass(299);
        check.same("missing after 299 ticks", Check.missing(bench, 5), 1);
        bench.pass(1);
        for (int source = 1; source <= 5; source++) {
            check.same("missing of one given up", Check.missing(bench, source), NONE);
        }
    }
}
