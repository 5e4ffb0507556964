/** Promise 2. */
public final class FeedTest {
    public static void main(String[] args) {
        Check check = new Check();
        answersHowManyThereAre(check);
        takesTheLowestBytesTheHighestFirst(check);
        refusesCountsOutside1To8(check);
        takesUpTo1480(check);
        refusesMoreThan1480(check);
        beginsAnewWhenThePieceHasCome(check);
        check.end();
    }

    private static void answersHowManyThereAre(Check check) {
        PieceBench bench = new PieceBench();
        int sum = 0;
        for (int n = 1; n <= 8; n++) {
            sum += n;
            check.same("feed of " + n, bench.feed(-1L, n), sum);
        }
        check.same("1 on a new one", new PieceBench().feed(0, 1), 1);
        check.same("8 on a new one", new PieceBench().feed(0, 8), 8);
    }

    private static void takesTheLowestBytesTheHighestFirst(Check check) {
        long[] all = {0xF1E2D3C4B5A69788L, 0x0102030405060708L, 0, -1L, Long.MIN_VALUE, Long.MAX_VALUE, 0x80L, 0xFF00L};
        for (long bytes : all) {
            for (int n = 1; n <= 8; n++) {
                takes(check, bytes, n);
            }
        }
    }

    private static void takes(Check check, long bytes, int n) {
        PieceBench bench = new PieceBench();
        bench.feed(0x3E, 1);
        bench.feed(bytes, n);
        bench.feed(0x7F, 1);
        bench.piece(1, 2, 3, 0, n + 2);
        check.same("the byte fed before", bench.byteAt(0), 0x3E);
        for (int k = 0; k < n; k++) {
            long due = (bytes >>> (8 * (n - 1 - k))) & 255;
            check.same("byte " + k + " of " + n + " of " + bytes, bench.byteAt(1 + k), due);
        }
        check.same("the byte fed behind", bench.byteAt(1 + n), 0x7F);
    }

    /** "Illegal argument: n is not 1 .. 8", before the illegal state of a full one. */
    private static void refusesCountsOutside1To8(Check check) {
        int[] wrong = {0, 9, -1, -8, 16, 64, 257, Integer.MIN_VALUE, Integer.MAX_VALUE};
        for (Scene scene : Scene.all()) {
            for (int n : wrong) {
                scene.refuses(check, "feed of " + n, IllegalArgumentException.class, bench -> bench.feed(-1L, n));
            }
        }
    }

    /** "Illegal state: they would be more than 1480": just inside, for each n. */
    private static void takesUpTo1480(Check check) {
        for (int n = 1; n <= 8; n++) {
            PieceBench bench = new PieceBench();
            Check.feed(bench, 0, 1480 - n);
            check.same("feed of the last " + n, bench.feed(0x1122334455667788L, n), 1480);
            check.same("the full piece", bench.piece(1, 0, 0, 0, 1480), 1);
            check.same("the last byte", bench.byteAt(1479), 0x88);
            check.same("the last byte of before", bench.byteAt(1479 - n), (1479 - n) & 255);
        }
    }

    /** The same, just outside, for each n. */
    private static void refusesMoreThan1480(Check check) {
        for (int n = 1; n <= 8; n++) {
            int count = n;
            Scene almost = new Scene((1481 - n) + " bytes fed", () -> fed(1481 - count));
            almost.refuses(check, "feed of " + n, IllegalStateException.class, bench -> bench.feed(-1L, count));
            Scene.FULL.refuses(check, "feed of " + n, IllegalStateException.class, bench -> bench.feed(-1L, count));
        }
        PieceBench bench = fed(1473);
        check.refused("feed up to 1481", IllegalStateException.class, () -> bench.feed(-1L, 8));
        check.same("feed up to 1480 after the refusal", bench.feed(0, 7), 1480);
    }

    private static void beginsAnewWhenThePieceHasCome(Check check) {
        PieceBench bench = fed(1480);
        bench.piece(1, 0, 0, 0, 1480);
        check.same("feed after a whole one", bench.feed(0, 8), 8);
        bench.piece(1, 0, 0, 0, 9);
        check.same("feed after one that waits", bench.feed(0, 3), 3);
        bench.piece(1, 0, 0, 0, 8);
        check.same("feed after one that counts for nothing", bench.feed(0, 2), 2);
        check.refused("a refused piece", IllegalStateException.class, () -> bench.piece(1, 0, 0, 8, 9));
        check.same("feed after a refused one", bench.feed(0, 4), 6);
    }

    private static PieceBench fed(int count) {
        PieceBench bench = new PieceBench();
        Check.feed(bench, 0, count);
        return bench;
    }
}
