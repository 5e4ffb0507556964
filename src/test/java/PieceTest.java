/** Promise 3, and which datagram is driven out. */
public final class PieceTest {
    public static void main(String[] args) {
        Check check = new Check();
        comesInAnyOrder(check);
        theFirstByteCounts(check);
        anotherWholeCountsForNothing(check);
        tellsDatagramsByAllThreeNumbers(check);
        drivesOutTheEarliest(check);
        drivesOutForOneThatIsWholeAtOnce(check);
        drivesNoneOutForOneThatWaits(check);
        beginsAForgottenOneAnew(check);
        refusesWrongArguments(check);
        refusesInTheWrongState(check);
        takesTheLargestDatagram(check);
        check.end();
    }

    private static void comesInAnyOrder(Check check) {
        PieceBench bench = new PieceBench();
        check.same("the last piece", Check.send(bench, 1, 6, 9, 6, 3), 0);
        check.same("the first piece", Check.send(bench, 1, 0, 9, 0, 3), 0);
        check.same("the first piece again", Check.send(bench, 1, 0, 9, 0, 3), 0);
        check.same("the middle piece", Check.send(bench, 1, 3, 9, 3, 3), 1);
        for (int i = 0; i < 9; i++) {
            check.same("byte " + i, bench.byteAt(i), i);
        }
        check.same("a datagram of one byte", Check.send(bench, 2, 0, 1, 255, 1), 1);
    }

    private static void theFirstByteCounts(Check check) {
        PieceBench bench = new PieceBench();
        Check.send(bench, 1, 2, 8, 100, 3);
        check.same("a piece over another", Check.send(bench, 1, 1, 8, 200, 6), 0);
        check.same("missing", Check.missing(bench, 1), 2);
        check.same("a piece over all", Check.send(bench, 1, 0, 8, 50, 8), 1);
        int[] due = {50, 200, 100, 101, 102, 204, 205, 57};
        for (int i = 0; i < due.length; i++) {
            check.same("byte " + i, bench.byteAt(i), due[i]);
        }
        // A byte 0 that has come is a byte as any other.
        Check.send(bench, 2, 0, 2, 0, 1);
        Check.send(bench, 2, 0, 2, 7, 2);
        check.same("the byte 0", bench.byteAt(0), 0);
    }

    private static void anotherWholeCountsForNothing(Check check) {
        PieceBench bench = new PieceBench();
        Check.send(bench, 1, 0, 4, 10, 2);
        check.same("a larger whole", Check.send(bench, 1, 2, 5, 20, 2), PieceBench.NONE);
        check.same("a smaller whole", Check.send(bench, 1, 2, 3, 30, 1), PieceBench.NONE);
        check.same("missing", Check.missing(bench, 1), 2);
        check.same("has", bench.has(1, 0, 0, 2), false);
        check.same("waiting", bench.waiting(), 1);
        check.refused("a piece of what was used up", IllegalStateException.class, () -> bench.piece(1, 0, 0, 0, 4));
        check.same("the right whole", Check.send(bench, 1, 2, 4, 40, 2), 1);
        check.same("byte 2", bench.byteAt(2), 40);
        check.same("another whole when it waits no more", Check.send(bench, 1, 0, 5, 1, 1), 0);
        check.same("missing then", Check.missing(bench, 1), 4);
    }

    private static void tellsDatagramsByAllThreeNumbers(Check check) {
        PieceBench bench = new PieceBench();
        int[][] names = {{1, 2, 3}, {3, 2, 1}, {1, 3, 2}, {1, 2, Integer.MIN_VALUE}};
        for (int k = 0; k < names.length; k++) {
            bench.feed(k, 1);
            check.same("the first piece of " + k, bench.piece(names[k][0], names[k][1], names[k][2], 0, 2), 0);
        }
        check.same("waiting", bench.waiting(), 4);
        for (int k = 0; k < names.length; k++) {
            bench.feed(100 + k, 1);
            check.same("the second piece of " + k, bench.piece(names[k][0], names[k][1], names[k][2], 1, 2), 1);
            check.same("byte 0 of " + k, bench.byteAt(0), k);
            check.same("byte 1 of " + k, bench.byteAt(1), 100 + k);
        }
    }

    private static void drivesOutTheEarliest(Check check) {
        PieceBench bench = new PieceBench();
        for (int source = 1; source <= 4; source++) {
            Check.start(bench, source);
        }
        // A further piece does not make a datagram any younger.
        Check.start(bench, 1);
        check.same("a fifth", Check.start(bench, 5), 0);
        check.same("waiting", bench.waiting(), 4);
        check.same("missing of 1", Check.missing(bench, 1), PieceBench.NONE);
        check.same("missing of 2", Check.missing(bench, 2), 1);
        // Whole in the middle of the bench: the order of the rest stays.
        check.same("3 is whole", Check.send(bench, 3, 1, 2, 0, 1), 1);
        Check.start(bench, 6);
        check.same("missing of 2 still", Check.missing(bench, 2), 1);
        int[] driven = {2, 4, 5, 6};
        for (int k = 0; k < driven.length; k++) {
            Check.start(bench, 10 + k);
            check.same("missing of " + driven[k], Check.missing(bench, driven[k]), PieceBench.NONE);
            check.same("waiting then", bench.waiting(), 4);
            if (k + 1 < driven.length) {
                check.same("missing of " + driven[k + 1], Check.missing(bench, driven[k + 1]), 1);
            }
        }
    }

    private static void drivesOutForOneThatIsWholeAtOnce(Check check) {
        PieceBench bench = new PieceBench();
        for (int source = 1; source <= 4; source++) {
            Check.start(bench, source);
        }
        check.same("whole at once", Check.send(bench, 5, 0, 2, 70, 2), 1);
        check.same("waiting", bench.waiting(), 3);
        check.same("missing of 1", Check.missing(bench, 1), PieceBench.NONE);
        check.same("missing of 2", Check.missing(bench, 2), 1);
        check.same("whole at once with a free place", Check.send(bench, 6, 0, 1, 80, 1), 1);
        check.same("waiting then", bench.waiting(), 3);
        check.same("missing of 2 then", Check.missing(bench, 2), 1);
    }

    private static void drivesNoneOutForOneThatWaits(Check check) {
        PieceBench bench = new PieceBench();
        for (int source = 1; source <= 4; source++) {
            Check.start(bench, source);
        }
        check.same("another whole", Check.send(bench, 4, 0, 3, 0, 1), PieceBench.NONE);
        check.same("twice", Check.start(bench, 3), 0);
        check.same("waiting", bench.waiting(), 4);
        bench.feed(0, 3);
        check.refused("a fifth beyond its whole", IllegalStateException.class, () -> bench.piece(5, 0, 0, 0, 2));
        check.refused("a fifth of no whole", IllegalArgumentException.class, () -> bench.piece(5, 0, 0, 0, 0));
        check.same("missing of 1", Check.missing(bench, 1), 1);
        check.same("waiting after refusals", bench.waiting(), 4);
    }

    private static void beginsAForgottenOneAnew(Check check) {
        PieceBench bench = new PieceBench();
        Check.send(bench, 1, 0, 2, 1, 2);
        check.same("after it was whole", Check.send(bench, 1, 1, 3, 9, 1), 0);
        check.same("missing after it was whole", Check.missing(bench, 1), 2);
        for (int source = 2; source <= 5; source++) {
            Check.start(bench, source);
        }
        check.same("after it was driven out", Check.send(bench, 1, 0, 2, 8, 1), 0);
        check.same("missing after it was driven out", Check.missing(bench, 1), 1);
        bench.pass(300);
        check.same("after it was given up", Check.send(bench, 1, 1, 2, 8, 1), 0);
        check.same("has after it was given up", bench.has(1, 0, 0, 0), false);
        check.same("the old whole is still told", bench.about(3), 2);
        check.same("the old byte is still told", bench.byteAt(1), 2);
    }

    private static void refusesWrongArguments(Check check) {
        PieceBench bench = new PieceBench();
        int[] wrongWholes = {0, -1, 1481, Integer.MIN_VALUE, Integer.MAX_VALUE};
        check.refused("a wrong whole, nothing fed", IllegalArgumentException.class, () -> bench.piece(1, 1, 1, 0, 0));
        check.refused("a wrong from, nothing fed", IllegalArgumentException.class, () -> bench.piece(1, 1, 1, -1, 9));
        bench.feed(5, 2);
        for (int whole : wrongWholes) {
            check.refused("whole " + whole, IllegalArgumentException.class, () -> bench.piece(1, 1, 1, 0, whole));
        }
        check.refused("from -1", IllegalArgumentException.class, () -> bench.piece(1, 1, 1, -1, 9));
        check.refused("the least from", IllegalArgumentException.class,
                () -> bench.piece(1, 1, 1, Integer.MIN_VALUE, 9));
        check.same("waiting after refusals", bench.waiting(), 0);
        check.same("the bytes stay", bench.feed(5, 1), 3);
    }

    private static void refusesInTheWrongState(Check check) {
        PieceBench bench = new PieceBench();
        check.refused("nothing fed", IllegalStateException.class, () -> bench.piece(1, 1, 1, 0, 9));
        bench.feed(0x0102, 2);
        check.refused("one byte beyond", IllegalStateException.class, () -> bench.piece(1, 1, 1, 4, 5));
        check.refused("wholly beyond", IllegalStateException.class, () -> bench.piece(1, 1, 1, 9, 5));
        check.refused("larger than the whole", IllegalStateException.class, () -> bench.piece(1, 1, 1, 0, 1));
        check.refused("the largest from", IllegalStateException.class,
                () -> bench.piece(1, 1, 1, Integer.MAX_VALUE, 1480));
        check.same("waiting after refusals", bench.waiting(), 0);
        check.same("up to the end", bench.piece(1, 1, 1, 3, 5), 0);
        check.same("missing", bench.missing(1, 1, 1), 3);
        // Beyond the whole that it tells itself, although not beyond that of the first piece.
        bench.feed(0, 2);
        check.refused("another whole, and beyond it", IllegalStateException.class, () -> bench.piece(1, 1, 1, 2, 3));
        check.same("the bytes stay", bench.feed(7, 1), 3);
        check.same("missing then", bench.missing(1, 1, 1), 3);
    }

    private static void takesTheLargestDatagram(Check check) {
        PieceBench bench = new PieceBench();
        Check.send(bench, 1, 1479, 1480, 77, 1);
        check.same("missing of the largest", Check.missing(bench, 1), 1479);
        Check.feedFull(bench, 0x0102030405060708L);
        check.same("all of the largest", bench.piece(1, 0, 0, 0, 1480), 1);
        check.same("its first byte", bench.byteAt(0), 1);
        check.same("its last byte but one", bench.byteAt(1478), 7);
        check.same("its last byte", bench.byteAt(1479), 77);
    }
}
