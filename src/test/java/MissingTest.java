/** Promise 7. */
public final class MissingTest {
    public static void main(String[] args) {
        Check check = new Check();
        PieceBench bench = new PieceBench();
        check.same("missing of none", bench.missing(1, 2, 3), PieceBench.NONE);
        bench.feed(0, 4);
        check.same("missing of one that is only fed", bench.missing(1, 2, 3), PieceBench.NONE);
        bench.piece(1, 2, 3, 10, 20);
        check.same("missing after 4 of 20", bench.missing(1, 2, 3), 16);
        bench.feed(0, 4);
        bench.piece(1, 2, 3, 10, 20);
        check.same("missing after the same again", bench.missing(1, 2, 3), 16);
        bench.feed(0, 4);
        bench.piece(1, 2, 3, 12, 20);
        check.same("missing after two over, two new", bench.missing(1, 2, 3), 14);
        check.same("missing of another source", bench.missing(0, 2, 3), PieceBench.NONE);
        check.same("missing of another goal", bench.missing(1, 0, 3), PieceBench.NONE);
        check.same("missing of another number", bench.missing(1, 2, 0), PieceBench.NONE);
        bench.feed(0, 8);
        bench.piece(1, 2, 3, 0, 20);
        bench.feed(0, 2);
        bench.piece(1, 2, 3, 8, 20);
        bench.feed(0, 3);
        bench.piece(1, 2, 3, 17, 20);
        check.same("missing with one hole", bench.missing(1, 2, 3), 1);
        bench.feed(0, 1);
        bench.piece(1, 2, 3, 16, 20);
        check.same("missing of a whole one", bench.missing(1, 2, 3), PieceBench.NONE);
        Check.start(bench, 5);
        bench.pass(300);
        check.same("missing of one given up", Check.missing(bench, 5), PieceBench.NONE);
        check.end();
    }
}
