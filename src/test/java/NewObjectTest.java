/** Promise 1: "None waits; none was whole; time is 0." */
public final class NewObjectTest {
    private static final int[] INTS = {0, 1, -1, Integer.MIN_VALUE, Integer.MAX_VALUE};

    public static void main(String[] args) {
        Check check = new Check();
        check.same("NONE", PieceBench.NONE, -1);
        noneWaits(check);
        noneWasWhole(check);
        nothingWasFed(check);
        timeIsZero(check);
        twoObjectsShareNothing(check);
        check.end();
    }

    private static void noneWaits(Check check) {
        PieceBench bench = new PieceBench();
        check.same("waiting of a new one", bench.waiting(), 0);
        // A place of the bench that was never used must not pass for the datagram (0, 0, 0).
        for (int told : INTS) {
            check.same("missing of a new one", bench.missing(told, told, told), PieceBench.NONE);
            for (int i : INTS) {
                check.same("has of a new one", bench.has(told, told, told, i), false);
            }
        }
        check.same("none is given up", bench.pass(1000000), 0);
        bench.feed(9, 1);
        check.same("the first piece of (0, 0, 0)", bench.piece(0, 0, 0, 1479, 1480), 0);
        check.same("missing then", bench.missing(0, 0, 0), 1479);
    }

    private static void noneWasWhole(Check check) {
        for (int what = 0; what <= 3; what++) {
            int asked = what;
            Scene.NEW.refuses(check, "about " + what, IllegalStateException.class, bench -> bench.about(asked));
        }
        for (int i : INTS) {
            Scene.NEW.refuses(check, "byteAt " + i, IllegalStateException.class, bench -> bench.byteAt(i));
        }
    }

    private static void nothingWasFed(Check check) {
        Scene.NEW.refuses(check, "piece", IllegalStateException.class, bench -> bench.piece(0, 0, 0, 0, 1));
        check.same("the first feed", new PieceBench().feed(0, 1), 1);
    }

    /** It takes more than 512 calls to see it, so that the document promises nothing there; the class keeps to it. */
    private static void timeIsZero(Check check) {
        PieceBench bench = new PieceBench();
        for (int k = 1; k <= 1000; k++) {
            check.same("pass " + k, Check.answer(() -> bench.pass(1000000)), "0");
        }
        check.refused("pass beyond the latest time", IllegalStateException.class, () -> bench.pass(1));
    }

    private static void twoObjectsShareNothing(Check check) {
        Scene afterAnother = new Scene("a new one, made after another was used", () -> {
            PieceBench bench = new PieceBench();
            Scene.BUSY.make();
            return bench;
        });
        afterAnother.sameAs(check, Scene.NEW);
    }
}
