/** Promise 1. */
public final class NewObjectTest {
    public static void main(String[] args) {
        Check check = new Check();
        PieceBench bench = new PieceBench();
        check.same("NONE", PieceBench.NONE, -1);
        check.same("waiting of a new one", bench.waiting(), 0);
        // A place of the bench that was never used must not pass for the datagram (0, 0, 0).
        check.same("missing of a new one", bench.missing(0, 0, 0), PieceBench.NONE);
        check.same("has of a new one", bench.has(0, 0, 0, 0), false);
        check.refused("about of a new one", IllegalStateException.class, () -> bench.about(0));
        check.refused("byteAt of a new one", IllegalStateException.class, () -> bench.byteAt(0));
        check.refused("piece of a new one", IllegalStateException.class, () -> bench.piece(0, 0, 0, 0, 1));
        check.same("pass of a new one", bench.pass(1000000), 0);
        check.same("first feed", bench.feed(0, 1), 1);
        twoObjectsShareNothing(check);
        check.end();
    }

    private static void twoObjectsShareNothing(Check check) {
        PieceBench one = new PieceBench();
        PieceBench other = new PieceBench();
        Check.start(one, 1);
        Check.send(one, 2, 0, 1, 9, 1);
        one.feed(1, 1);
        check.same("waiting of the other", other.waiting(), 0);
        check.same("missing of the other", Check.missing(other, 1), PieceBench.NONE);
        check.refused("about of the other", IllegalStateException.class, () -> other.about(0));
        check.same("feed of the other", other.feed(1, 1), 1);
    }
}
