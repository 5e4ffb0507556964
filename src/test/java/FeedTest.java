/** Promise 2. */
public final class FeedTest {
    public static void main(String[] args) {
        Check check = new Check();
        answersHowManyThereAre(check);
        takesTheLowestBytesTheHighestFirst(check);
        refusesWrongCounts(check);
        refusesMoreThanFit(check);
        check.end();
    }

    private static void answersHowManyThereAre(Check check) {
        PieceBench bench = new PieceBench();
        int sum = 0;
        for (int n = 1; n <= 8; n++) {
            sum += n;
            check.same("feed of " + n, bench.feed(-1L, n), sum);
        }
        bench.piece(1, 2, 3, 0, 100);
        check.same("feed after a piece", bench.feed(0, 3), 3);
    }

    private static void takesTheLowestBytesTheHighestFirst(Check check) {
        long bytes = 0xF1E2D3C4B5A69788L;
        for (int n = 1; n <= 8; n++) {
            PieceBench bench = new PieceBench();
            bench.feed(bytes, n);
            bench.feed(0x7FL, 1);
            bench.piece(1, 2, 3, 0, n + 1);
            for (int k = 0; k < n; k++) {
                check.same("byte " + k + " of " + n, bench.byteAt(k), (bytes >>> (8 * (n - 1 - k))) & 255);
            }
            check.same("the byte fed next", bench.byteAt(n), 0x7F);
        }
    }

    private static void refusesWrongCounts(Check check) {
        PieceBench bench = new PieceBench();
        int[] wrong = {0, 9, -1, 64, Integer.MIN_VALUE, Integer.MAX_VALUE};
        for (int n : wrong) {
            check.refused("feed of " + n, IllegalArgumentException.class, () -> bench.feed(1, n));
        }
        check.same("feed after refusals", bench.feed(1, 1), 1);
    }

    private static void refusesMoreThanFit(Check check) {
        PieceBench bench = new PieceBench();
        for (int k = 0; k < 184; k++) {
            bench.feed(0, 8);
        }
        check.same("feed up to 1473", bench.feed(1, 1), 1473);
        check.refused("feed up to 1481", IllegalStateException.class, () -> bench.feed(-1L, 8));
        check.same("feed up to 1480", bench.feed(2, 7), 1480);
        check.refused("feed of a full one", IllegalStateException.class, () -> bench.feed(-1L, 1));
        check.refused("wrong feed of a full one", IllegalArgumentException.class, () -> bench.feed(-1L, 9));
        check.same("the full piece", bench.piece(1, 2, 3, 0, 1480), 1);
        check.same("byte 1472", bench.byteAt(1472), 1);
        check.same("byte 1473", bench.byteAt(1473), 0);
        check.same("byte 1479", bench.byteAt(1479), 2);
        check.same("feed after the full piece", bench.feed(0, 8), 8);
    }
}
