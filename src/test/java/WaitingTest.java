/** Promise 9. */
public final class WaitingTest {
    public static void main(String[] args) {
        Check check = new Check();
        countsUpTo4(check);
        countsDownTo0(check);
        isNotMovedByRefusals(check);
        check.end();
    }

    private static void countsUpTo4(Check check) {
        PieceBench bench = new PieceBench();
        check.same("waiting at first", bench.waiting(), 0);
        bench.feed(0, 1);
        check.same("waiting after a feed", bench.waiting(), 0);
        bench.piece(1, 0, 0, 0, 2);
        check.same("waiting after one", bench.waiting(), 1);
        Check.start(bench, 1);
        check.same("waiting after the same", bench.waiting(), 1);
        for (int source = 2; source <= 9; source++) {
            Check.start(bench, source);
            check.same("waiting after " + source, bench.waiting(), Math.min(source, 4));
        }
    }

    private static void countsDownTo0(Check check) {
        PieceBench bench = new PieceBench();
        Check.startFour(bench);
        Check.send(bench, 4, 1, 3, 0, 1);
        check.same("waiting after one counted for nothing", bench.waiting(), 4);
        Check.send(bench, 2, 1, 2, 0, 1);
        check.same("waiting after one was whole", bench.waiting(), 3);
        Check.send(bench, 20, 0, 1, 0, 1);
        check.same("waiting after one was whole at once", bench.waiting(), 3);
        bench.pass(299);
        check.same("waiting after 299 ticks", bench.waiting(), 3);
        bench.pass(1);
        check.same("waiting after 300 ticks", bench.waiting(), 0);
        Check.startFour(bench);
        for (int source = 1; source <= 4; source++) {
            Check.send(bench, source, 1, 2, 0, 1);
            check.same("waiting after " + source + " was whole", bench.waiting(), 4 - source);
        }
    }

    private static void isNotMovedByRefusals(Check check) {
        PieceBench bench = Scene.BUSY.make();
        check.refused("a wrong whole", IllegalArgumentException.class, () -> bench.piece(9, 0, 0, 0, 0));
        check.refused("beyond the whole", IllegalStateException.class, () -> bench.piece(9, 0, 0, 0, 4));
        check.refused("a wrong pass", IllegalArgumentException.class, () -> bench.pass(1000001));
        check.same("waiting after refusals", bench.waiting(), 4);
    }
}
