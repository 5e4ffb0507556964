/** Promise 3. */
public final class PieceTest {
    private static final int LEAST = Integer.MIN_VALUE;
    private static final int MOST = Integer.MAX_VALUE;

    public static void main(String[] args) {
        Check check = new Check();
        comesInAnyOrder(check);
        usesUpItsBytes(check);
        takesWholesFrom1To1480(check);
        refusesOtherWholes(check);
        refusesFromsBelow0(check);
        refusesWhenNothingWasFed(check);
        goesUpToTheEndOfTheWhole(check);
        refusesToGoBeyondTheWhole(check);
        anotherWholeCountsForNothing(check);
        anotherWholeWhenItWaitsNoMore(check);
        anotherWholeAndBeyondIt(check);
        check.end();
    }

    private static void comesInAnyOrder(Check check) {
        PieceBench bench = new PieceBench();
        check.same("the last piece", Check.send(bench, 1, 6, 9, 6, 3), 0);
        check.same("the first piece", Check.send(bench, 1, 0, 9, 0, 3), 0);
        check.same("the first piece again", Check.send(bench, 1, 0, 9, 0, 3), 0);
        check.same("the middle but one byte", Check.send(bench, 1, 3, 9, 3, 2), 0);
        check.same("the last byte that lacks", Check.send(bench, 1, 5, 9, 5, 1), 1);
        for (int i = 0; i < 9; i++) {
            check.same("byte " + i, bench.byteAt(i), i);
        }
    }

    /** "With the bytes that were fed (which are used up)". */
    private static void usesUpItsBytes(Check check) {
        Scene waits = new Scene("after a piece that waits", () -> withFiveBytesOf(10));
        waits.refuses(check, "the next piece", IllegalStateException.class, bench -> bench.piece(1, 0, 0, 0, 10));
        Scene whole = new Scene("after a piece that is whole", () -> withFiveBytesOf(5));
        whole.refuses(check, "the next piece", IllegalStateException.class, bench -> bench.piece(1, 0, 0, 0, 5));
    }

    /** "Illegal argument: whole is not 1 .. 1480": just inside. */
    private static void takesWholesFrom1To1480(Check check) {
        PieceBench bench = new PieceBench();
        check.same("a whole of 1", Check.send(bench, 1, 0, 1, 255, 1), 1);
        check.same("its size", bench.about(3), 1);
        check.same("a byte of 1480", Check.send(bench, 1, 1479, 1480, 77, 1), 0);
        check.same("missing of 1480", Check.missing(bench, 1), 1479);
        check.same("all of 1480", Check.send(bench, 1, 0, 1480, 3, 1480), 1);
        check.same("its size then", bench.about(3), 1480);
        check.same("its first byte", bench.byteAt(0), 3);
        check.same("its last byte but one", bench.byteAt(1478), (3 + 1478) & 255);
        check.same("its last byte", bench.byteAt(1479), 77);
        check.same("a byte of 2", Check.send(bench, 1, 0, 2, 0, 1), 0);
        check.same("a byte of 1479", Check.send(bench, 2, 0, 1479, 0, 1), 0);
        check.same("missing of 1479", Check.missing(bench, 2), 1478);
    }

    /** Just outside, and before the illegal states: nothing fed, or beyond that whole. */
    private static void refusesOtherWholes(Check check) {
        int[] wrong = {0, 1481, -1, 1480 + 65536, LEAST, MOST};
        int[] froms = {0, 1480, MOST};
        for (Scene scene : Scene.all()) {
            for (int whole : wrong) {
                for (int from : froms) {
                    refusesAll(check, scene, from, whole, IllegalArgumentException.class);
                }
            }
        }
    }

    /** "Or from less than 0", also before the illegal states. */
    private static void refusesFromsBelow0(Check check) {
        int[] wrong = {-1, -1480, LEAST, LEAST + 1};
        int[] wholes = {1, 10, 1480, 0, 1481};
        for (Scene scene : Scene.all()) {
            for (int from : wrong) {
                for (int whole : wholes) {
                    refusesAll(check, scene, from, whole, IllegalArgumentException.class);
                }
            }
        }
        check.same("a from of 0", Check.send(new PieceBench(), 1, 0, 5, 0, 5), 1);
    }

    /** "Illegal state: nothing was fed", also for a datagram that waits, told with its whole or another. */
    private static void refusesWhenNothingWasFed(Check check) {
        int[] froms = {0, 1, MOST};
        int[] wholes = {1, 9, 10, 1480};
        Scene[] scenes = {Scene.NEW, Scene.NONE_WHOLE};
        for (Scene scene : scenes) {
            for (int from : froms) {
                for (int whole : wholes) {
                    refusesAll(check, scene, from, whole, IllegalStateException.class);
                }
            }
        }
        check.same("one byte is enough", Check.send(Scene.NONE_WHOLE.make(), 1, 0, 10, 0, 1), 0);
    }

    /** "Or it would go beyond the whole": just inside. */
    private static void goesUpToTheEndOfTheWhole(Check check) {
        int[] counts = {1, 2, 7, 1479, 1480};
        int[] wholes = {1, 2, 8, 1479, 1480};
        for (int count : counts) {
            for (int whole : wholes) {
                if (count <= whole) {
                    endsAtTheEnd(check, count, whole);
                }
            }
        }
    }

    private static void endsAtTheEnd(Check check, int count, int whole) {
        PieceBench bench = new PieceBench();
        String what = count + " bytes at the end of " + whole;
        check.same(what, Check.send(bench, 1, whole - count, whole, 0, count), count == whole ? 1 : 0);
        check.same(what + ", missing", Check.missing(bench, 1), count == whole ? PieceBench.NONE : whole - count);
        check.same(what + ", its last", bench.has(1, 0, 0, whole - 1), count < whole);
        check.same(what + ", the one before its first", bench.has(1, 0, 0, whole - count - 1), false);
    }

    /** Just outside, far outside, and where from and the count of bytes would wrap round; "the bytes stay". */
    private static void refusesToGoBeyondTheWhole(Check check) {
        int[] wholes = {4, 5, 6, 10, 1480};
        for (int whole : wholes) {
            int[] beyond = {whole - 4, whole - 1, whole, whole + 1, 1480, MOST - 5, MOST - 4, MOST - 1, MOST};
            for (int from : beyond) {
                if (from >= 0) {
                    refusesAll(check, Scene.BUSY, from, whole, IllegalStateException.class);
                }
            }
        }
        refusesAll(check, Scene.BUSY, 0, 1, IllegalStateException.class);
        refusesAll(check, Scene.FULL, 0, 1479, IllegalStateException.class);
        refusesAll(check, Scene.FULL, 1, 1480, IllegalStateException.class);
        refusesAll(check, Scene.FULL, MOST, 1480, IllegalStateException.class);
        refusesAll(check, Scene.FULL, MOST - 1479, 1480, IllegalStateException.class);

        PieceBench bench = new PieceBench();
        bench.feed(0x0A0B, 2);
        check.refused("one byte beyond", IllegalStateException.class, () -> bench.piece(1, 0, 0, 1, 2));
        check.same("the bytes stay", bench.piece(1, 0, 0, 0, 2), 1);
        check.same("the first of them", bench.byteAt(0), 0x0A);
        check.same("the second of them", bench.byteAt(1), 0x0B);
    }

    /** For one that waits, which is the first, one in the middle and the last there, and for one that does not. */
    private static void refusesAll(Check check, Scene scene, int from, int whole,
            Class<? extends RuntimeException> due) {
        int[] sources = {1, 2, 4, 5};
        for (int source : sources) {
            scene.refuses(check, "piece of " + source + " from " + from + " of " + whole, due,
                    bench -> bench.piece(source, 0, 0, from, whole));
        }
    }

    /** "It counts for nothing (its bytes are used up all the same)": as if they had never been fed. */
    private static void anotherWholeCountsForNothing(Check check) {
        int[] others = {5, 9, 11, 1479, 1480};
        for (int source = 1; source <= 4; source++) {
            for (int whole : others) {
                int told = source;
                check.same("piece of " + source + ", told as of " + whole,
                        Check.send(Scene.NONE_WHOLE.make(), source, 0, whole, 90, 5), PieceBench.NONE);
                Scene got = new Scene("after a piece of " + source + ", told as of " + whole, () -> {
                    PieceBench bench = Scene.NONE_WHOLE.make();
                    Check.send(bench, told, 0, whole, 90, 5);
                    return bench;
                });
                got.sameAs(check, Scene.NONE_WHOLE);
            }
        }
        PieceBench bench = Scene.NONE_WHOLE.make();
        check.same("a whole of 1, with all its bytes", Check.send(bench, 1, 0, 1, 0, 1), PieceBench.NONE);
        check.same("the right whole", Check.send(bench, 1, 0, 10, 0, 10), 1);
    }

    /** Told by the first piece of the datagram "which waits": one that was forgotten binds no further piece. */
    private static void anotherWholeWhenItWaitsNoMore(Check check) {
        PieceBench bench = new PieceBench();
        Check.send(bench, 1, 0, 5, 0, 5);
        check.same("another whole after it was whole", Check.send(bench, 1, 0, 6, 0, 1), 0);
        check.same("missing then", Check.missing(bench, 1), 5);
        bench.pass(300);
        check.same("another whole after it was given up", Check.send(bench, 1, 0, 7, 0, 1), 0);
        check.same("missing then", Check.missing(bench, 1), 6);
        for (int source = 2; source <= 5; source++) {
            Check.start(bench, source);
        }
        check.same("another whole after it was driven out", Check.send(bench, 1, 0, 8, 0, 1), 0);
        check.same("missing then", Check.missing(bench, 1), 7);
        check.same("the whole of before", Check.send(bench, 1, 0, 7, 0, 1), PieceBench.NONE);
    }

    /** The whole that it must not go beyond is the one that the call tells, be it another than the first piece's. */
    private static void anotherWholeAndBeyondIt(Check check) {
        // Five bytes are fed, and those that wait have ten.
        refusesAll(check, Scene.BUSY, 5, 9, IllegalStateException.class);
        check.same("within another whole", Scene.BUSY.make().piece(1, 0, 0, 4, 9), PieceBench.NONE);
        check.same("within another whole, beyond the first's", Scene.BUSY.make().piece(1, 0, 0, 6, 11),
                PieceBench.NONE);
        check.same("within the right whole", Scene.BUSY.make().piece(1, 0, 0, 5, 10), 0);
    }

    private static PieceBench withFiveBytesOf(int whole) {
        PieceBench bench = new PieceBench();
        Check.send(bench, 1, 0, whole, 0, 5);
        return bench;
    }
}
