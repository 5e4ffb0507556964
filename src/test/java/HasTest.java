/** Promise 8. */
public final class HasTest {
    public static void main(String[] args) {
        Check check = new Check();
        PieceBench bench = new PieceBench();
        check.same("has of none", bench.has(1, 2, 3, 0), false);
        bench.feed(0, 3);
        bench.piece(1, 2, 3, 4, 10);
        for (int i = -2; i < 12; i++) {
            check.same("has " + i, bench.has(1, 2, 3, i), i >= 4 && i < 7);
        }
        int[] far = {1479, 1480, Integer.MIN_VALUE, Integer.MAX_VALUE};
        for (int i : far) {
            check.same("has " + i, bench.has(1, 2, 3, i), false);
        }
        check.same("has of another source", bench.has(0, 2, 3, 4), false);
        check.same("has of another goal", bench.has(1, 0, 3, 4), false);
        check.same("has of another number", bench.has(1, 2, 0, 4), false);
        atTheEnds(check);
        ofAForgottenOne(check);
        check.end();
    }

    private static void atTheEnds(Check check) {
        PieceBench bench = new PieceBench();
        Check.send(bench, 1, 1479, 1480, 0, 1);
        check.same("has the last of the largest", bench.has(1, 0, 0, 1479), true);
        check.same("has the one before it", bench.has(1, 0, 0, 1478), false);
        check.same("has the one behind it", bench.has(1, 0, 0, 1480), false);
        Check.send(bench, 1, 0, 1480, 0, 1);
        check.same("has the first", bench.has(1, 0, 0, 0), true);
    }

    private static void ofAForgottenOne(Check check) {
        PieceBench bench = new PieceBench();
        // All places are used with all bytes first, so that what is left there could be taken for new.
        for (int source = 1; source <= 5; source++) {
            Check.send(bench, source, 0, 10, 0, 9);
        }
        check.same("has of one driven out", bench.has(1, 0, 0, 0), false);
        bench.pass(300);
        check.same("has of one given up", bench.has(5, 0, 0, 0), false);
        Check.send(bench, 6, 0, 2, 0, 2);
        check.same("has of a whole one", bench.has(6, 0, 0, 0), false);
        for (int source = 1; source <= 4; source++) {
            Check.send(bench, source, 9, 10, 0, 1);
            check.same("has of one begun anew", bench.has(source, 0, 0, 0), false);
            check.same("has what began it", bench.has(source, 0, 0, 9), true);
        }
    }
}
