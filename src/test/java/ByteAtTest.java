/** Promise 6. */
public final class ByteAtTest {
    private static final int LEAST = Integer.MIN_VALUE;
    private static final int MOST = Integer.MAX_VALUE;

    public static void main(String[] args) {
        Check check = new Check();
        tellsBytesFrom0To255(check);
        refusesWhenNoneWasWhole(check);
        refusesWhereItHasNoByte(check);
        refusesBehindASmallerOne(check);
        keepsItsBytes(check);
        check.end();
    }

    private static void tellsBytesFrom0To255(Check check) {
        PieceBench bench = new PieceBench();
        Check.send(bench, 2, 0, 256, 0, 256);
        for (int i = 0; i < 256; i++) {
            check.same("byteAt " + i, bench.byteAt(i), i);
        }
        Check.send(bench, 3, 0, 1, 200, 1);
        check.same("byteAt 0 of the next", bench.byteAt(0), 200);
    }

    /** "Illegal state: none was whole", before the index out of bounds. */
    private static void refusesWhenNoneWasWhole(Check check) {
        int[] any = {0, 1, -1, 1479, 1480, LEAST, MOST};
        Scene[] scenes = {Scene.NEW, Scene.NONE_WHOLE};
        for (Scene scene : scenes) {
            for (int i : any) {
                scene.refuses(check, "byteAt " + i, IllegalStateException.class, bench -> bench.byteAt(i));
            }
        }
    }

    /** "Index out of bounds: it has no such byte": just inside and just outside. */
    private static void refusesWhereItHasNoByte(Check check) {
        int[] sizes = {1, 2, 9, 1479, 1480};
        for (int size : sizes) {
            Scene scene = new Scene("one of " + size + " was whole", () -> {
                PieceBench bench = new PieceBench();
                Check.send(bench, 1, 0, size, 7, size);
                return bench;
            });
            check.same("its first", scene.make().byteAt(0), 7);
            check.same("its last", scene.make().byteAt(size - 1), (7 + size - 1) & 255);
            refuses(check, scene, size);
        }
        refuses(check, Scene.BUSY, 3);
        refuses(check, Scene.FULL, 3);
    }

    /** What a larger one has left behind is none of its bytes. */
    private static void refusesBehindASmallerOne(Check check) {
        Scene scene = new Scene("one of 2 was whole after many of 9", () -> {
            PieceBench bench = new PieceBench();
            for (int source = 1; source <= 6; source++) {
                Check.send(bench, source, 0, 9, 0, 9);
            }
            Check.send(bench, 7, 0, 2, 0, 2);
            return bench;
        });
        refuses(check, scene, 2);
    }

    private static void refuses(Check check, Scene scene, int size) {
        int[] wrong = {size, size + 1, -1, 1480, 1481, LEAST, MOST};
        for (int i : wrong) {
            scene.refuses(check, "byteAt " + i, IndexOutOfBoundsException.class, bench -> bench.byteAt(i));
        }
    }

    /** Also while a further piece of the same name begins it anew, and while bytes are fed. */
    private static void keepsItsBytes(Check check) {
        PieceBench bench = new PieceBench();
        Check.send(bench, 1, 0, 3, 60, 3);
        for (int source = 1; source <= 9; source++) {
            Check.send(bench, source, 0, 4, 90, 3);
        }
        bench.pass(300);
        Check.feed(bench, 30, 3);
        for (int i = 0; i < 3; i++) {
            check.same("byteAt " + i + " while others come", bench.byteAt(i), 60 + i);
        }
    }
}
