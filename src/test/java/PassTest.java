/** Promise 4. */
public final class PassTest {
    public static void main(String[] args) {
        Check check = new Check();
        givesUpAfter300Ticks(check);
        givesUpSeveral(check);
        countsFromTheFirstPiece(check);
        countsAnewForOneBegunAnew(check);
        refusesWrongTicks(check);
        refusesTooLateATime(check);
        check.end();
    }

    private static void givesUpAfter300Ticks(Check check) {
        PieceBench bench = new PieceBench();
        bench.pass(1000);
        Check.start(bench, 1);
        check.same("pass of 0", bench.pass(0), 0);
        check.same("pass up to 299", bench.pass(299), 0);
        check.same("missing at 299", Check.missing(bench, 1), 1);
        check.same("pass up to 300", bench.pass(1), 1);
        check.same("missing at 300", Check.missing(bench, 1), PieceBench.NONE);
        check.same("waiting at 300", bench.waiting(), 0);
        check.same("pass with none", bench.pass(1000000), 0);
    }

    private static void givesUpSeveral(Check check) {
        PieceBench bench = new PieceBench();
        for (int source = 1; source <= 4; source++) {
            Check.start(bench, source);
            bench.pass(10);
        }
        Check.send(bench, 2, 1, 2, 0, 1);
        check.same("pass up to 300", bench.pass(260), 1);
        check.same("missing of 1", Check.missing(bench, 1), PieceBench.NONE);
        check.same("missing of 3", Check.missing(bench, 3), 1);
        check.same("pass up to 310", bench.pass(10), 0);
        check.same("pass far beyond", bench.pass(1000000), 2);
        check.same("waiting", bench.waiting(), 0);
        for (int source = 1; source <= 4; source++) {
            Check.start(bench, source);
        }
        check.same("pass for all four", bench.pass(300), 4);
        check.same("about the one that was whole", bench.about(0), 2);
    }

    private static void countsFromTheFirstPiece(Check check) {
        PieceBench bench = new PieceBench();
        Check.send(bench, 1, 0, 9, 0, 1);
        bench.pass(200);
        Check.send(bench, 1, 1, 9, 0, 1);
        Check.send(bench, 1, 1, 8, 0, 1);
        check.same("pass up to 300", bench.pass(100), 1);
    }

    private static void countsAnewForOneBegunAnew(Check check) {
        PieceBench bench = new PieceBench();
        Check.start(bench, 1);
        bench.pass(200);
        Check.send(bench, 1, 1, 2, 0, 1);
        Check.start(bench, 1);
        check.same("pass up to 300 from the old one", bench.pass(100), 0);
        check.same("pass up to 299 from the new one", bench.pass(199), 0);
        check.same("pass up to 300 from the new one", bench.pass(1), 1);
    }

    private static void refusesWrongTicks(Check check) {
        PieceBench bench = new PieceBench();
        Check.start(bench, 1);
        int[] wrong = {-1, 1000001, Integer.MIN_VALUE, Integer.MAX_VALUE};
        for (int n : wrong) {
            check.refused("pass of " + n, IllegalArgumentException.class, () -> bench.pass(n));
        }
        check.same("waiting after refusals", bench.waiting(), 1);
        check.same("pass of 299", bench.pass(299), 0);
        check.same("pass of 1000000", bench.pass(1000000), 1);
    }

    /** It takes more than 512 calls to come there, so that the document promises nothing; the class keeps to it. */
    private static void refusesTooLateATime(Check check) {
        PieceBench bench = new PieceBench();
        for (int k = 0; k < 999; k++) {
            bench.pass(1000000);
        }
        bench.pass(999800);
        Check.start(bench, 1);
        check.refused("pass beyond the latest time", IllegalStateException.class, () -> bench.pass(300));
        check.refused("wrong pass", IllegalArgumentException.class, () -> bench.pass(1000001));
        check.same("waiting after the refusal", bench.waiting(), 1);
        check.same("pass up to the latest time", bench.pass(200), 0);
        check.refused("pass of 1 more", IllegalStateException.class, () -> bench.pass(1));
        check.same("pass of 0 more", bench.pass(0), 0);
    }
}
