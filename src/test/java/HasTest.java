/** Promise 8. */
public final class HasTest {
    private static final int LEAST = Integer.MIN_VALUE;
    private static final int MOST = Integer.MAX_VALUE;

    public static void main(String[] args) {
        Check check = new Check();
        tellsEachByte(check);
        isFalseBeforeAndBehindTheBytes(check);
        isFalseOfOneThatDoesNotWait(check);
        isFalseOfBytesOfOneForgotten(check);
        check.end();
    }

    private static void tellsEachByte(Check check) {
        PieceBench bench = new PieceBench();
        Check.send(bench, 1, 4, 10, 0, 3);
        Check.send(bench, 2, 6, 10, 0, 4);
        for (int i = -2; i < 13; i++) {
            check.same("has " + i + " of 1", bench.has(1, 0, 0, i), i >= 4 && i < 7);
            check.same("has " + i + " of 2", bench.has(2, 0, 0, i), i >= 6 && i < 10);
        }
        Check.send(bench, 1, 0, 10, 255, 1);
        check.same("has its first", bench.has(1, 0, 0, 0), true);
        check.same("has its second", bench.has(1, 0, 0, 1), false);
        Check.send(bench, 1, 9, 10, 0, 1);
        check.same("has its last", bench.has(1, 0, 0, 9), true);
        check.same("has its last but one", bench.has(1, 0, 0, 8), false);
    }

    /** A datagram has no byte there, so that none has come. */
    private static void isFalseBeforeAndBehindTheBytes(Check check) {
        int[] sizes = {2, 10, 1479, 1480};
        for (int size : sizes) {
            PieceBench bench = new PieceBench();
            Check.send(bench, 1, 1, size, 0, size - 1);
            check.same("has 0 of " + size, bench.has(1, 0, 0, 0), false);
            check.same("has 1 of " + size, bench.has(1, 0, 0, 1), true);
            check.same("has the last of " + size, bench.has(1, 0, 0, size - 1), true);
            int[] outside = {-1, size, size + 1, 1480, 1481, LEAST, LEAST + 1, MOST};
            for (int i : outside) {
                check.same("has " + i + " of " + size, bench.has(1, 0, 0, i), false);
            }
        }
    }

    private static void isFalseOfOneThatDoesNotWait(Check check) {
        PieceBench bench = new PieceBench();
        int[] places = {0, 4, -1, 1480, LEAST, MOST};
        for (int i : places) {
            check.same("has " + i + " of none", bench.has(1, 2, 3, i), false);
        }
        bench.feed(0, 8);
        check.same("has of one that is only fed", bench.has(1, 2, 3, 0), false);
        bench.piece(1, 2, 3, 0, 10);
        check.same("has of it", bench.has(1, 2, 3, 4), true);
        check.same("has of another source", bench.has(0, 2, 3, 4), false);
        check.same("has of another goal", bench.has(1, 0, 3, 4), false);
        check.same("has of another number", bench.has(1, 2, 0, 4), false);
        bench.feed(0, 2);
        bench.piece(1, 2, 3, 8, 10);
        check.same("has of a whole one", bench.has(1, 2, 3, 4), false);
    }

    private static void isFalseOfBytesOfOneForgotten(Check check) {
        PieceBench bench = new PieceBench();
        // All places are used with all bytes first, so that what is left there could be taken for new.
        for (int source = 1; source <= 5; source++) {
            Check.send(bench, source, 0, 10, 0, 9);
        }
        check.same("has of one driven out", bench.has(1, 0, 0, 0), false);
        bench.pass(299);
        check.same("has after 299 ticks", bench.has(5, 0, 0, 0), true);
        bench.pass(1);
        check.same("has of one given up", bench.has(5, 0, 0, 0), false);
        for (int source = 1; source <= 4; source++) {
            Check.send(bench, source, 9, 10, 0, 1);
            for (int i = 0; i < 9; i++) {
                check.same("has " + i + " of one begun anew", bench.has(source, 0, 0, i), false);
            }
            check.same("has what began it", bench.has(source, 0, 0, 9), true);
        }
    }
}
