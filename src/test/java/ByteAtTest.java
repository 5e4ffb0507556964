/** Promise 6. */
public final class ByteAtTest {
    public static void main(String[] args) {
        Check check = new Check();
        PieceBench bench = new PieceBench();
        Check.start(bench, 1);
        check.refused("byteAt before one was whole", IllegalStateException.class, () -> bench.byteAt(0));
        check.refused("wrong byteAt before one was whole", IllegalStateException.class, () -> bench.byteAt(-1));

        Check.send(bench, 2, 0, 256, 0, 256);
        for (int i = 0; i < 256; i++) {
            check.same("byteAt " + i, bench.byteAt(i), i);
        }
        refusesBeyond(check, bench, 256);
        Check.send(bench, 3, 0, 1, 200, 1);
        check.same("byteAt 0 of the next", bench.byteAt(0), 200);
        // The place may still hold bytes of a larger datagram behind those of this one.
        refusesBeyond(check, bench, 1);
        keepsItsBytes(check);
        largest(check);
        check.end();
    }

    private static void refusesBeyond(Check check, PieceBench bench, int size) {
        int[] wrong = {size, size + 1, -1, 1480, Integer.MIN_VALUE, Integer.MAX_VALUE};
        for (int i : wrong) {
            check.refused("byteAt " + i, IndexOutOfBoundsException.class, () -> bench.byteAt(i));
        }
    }

    private static void keepsItsBytes(Check check) {
        PieceBench bench = new PieceBench();
        Check.send(bench, 1, 0, 3, 60, 3);
        for (int source = 1; source <= 9; source++) {
            Check.send(bench, source, 0, 4, 90, 3);
        }
        Check.feed(bench, 30, 3);
        for (int i = 0; i < 3; i++) {
            check.same("byteAt " + i + " while others come", bench.byteAt(i), 60 + i);
        }
    }

    private static void largest(Check check) {
        PieceBench bench = new PieceBench();
        Check.feedFull(bench, -1L);
        bench.piece(1, 0, 0, 0, 1480);
        check.same("the last byte of the largest", bench.byteAt(1479), 255);
        refusesBeyond(check, bench, 1480);
    }
}
