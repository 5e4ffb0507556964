/** Promise 5. */
public final class AboutTest {
    private static final int LEAST = Integer.MIN_VALUE;
    private static final int MOST = Integer.MAX_VALUE;

    public static void main(String[] args) {
        Check check = new Check();
        tellsOfTheLastWhole(check);
        tellsAnyIntsAndAllSizes(check);
        isNotMovedByOthers(check);
        refusesOtherQuestions(check);
        refusesWhenNoneWasWhole(check);
        check.end();
    }

    private static void tellsOfTheLastWhole(Check check) {
        PieceBench bench = new PieceBench();
        bench.feed(0, 5);
        bench.piece(10, 20, 30, 0, 5);
        tells(check, bench, 10, 20, 30, 5);
        bench.feed(0, 1);
        bench.piece(7, 8, 9, 0, 1);
        tells(check, bench, 7, 8, 9, 1);
        bench.feed(0, 6);
        bench.piece(10, 20, 30, 0, 6);
        tells(check, bench, 10, 20, 30, 6);
    }

    private static void tellsAnyIntsAndAllSizes(Check check) {
        PieceBench bench = new PieceBench();
        int[][] names = {{LEAST, MOST, -1}, {MOST, -1, LEAST}, {-1, LEAST, MOST}, {0, 0, 0}};
        int[] sizes = {1, 2, 8};
        for (int[] name : names) {
            for (int size : sizes) {
                bench.feed(0, size);
                bench.piece(name[0], name[1], name[2], 0, size);
                tells(check, bench, name[0], name[1], name[2], size);
            }
        }
        Check.send(bench, LEAST, 0, 1480, 0, 1480);
        tells(check, bench, LEAST, 0, 0, 1480);
    }

    /** By none that waits, is driven out or given up, or counts for nothing. */
    private static void isNotMovedByOthers(Check check) {
        PieceBench bench = new PieceBench();
        Check.send(bench, 1, 0, 3, 0, 3);
        for (int source = 1; source <= 6; source++) {
            Check.start(bench, source);
            tells(check, bench, 1, 0, 0, 3);
        }
        Check.send(bench, 6, 0, 1, 0, 1);
        tells(check, bench, 1, 0, 0, 3);
        bench.pass(300);
        tells(check, bench, 1, 0, 0, 3);
    }

    /** "Illegal argument: what is none of these", also if none was whole. */
    private static void refusesOtherQuestions(Check check) {
        int[] wrong = {-1, 4, 5, 256, LEAST, MOST};
        for (Scene scene : Scene.all()) {
            for (int what : wrong) {
                scene.refuses(check, "about " + what, IllegalArgumentException.class, bench -> bench.about(what));
            }
        }
    }

    /** "Illegal state: none was whole", although some wait, were driven out or given up. */
    private static void refusesWhenNoneWasWhole(Check check) {
        Scene forgotten = new Scene("two were driven out, four given up", () -> {
            PieceBench bench = new PieceBench();
            for (int source = 1; source <= 6; source++) {
                Check.start(bench, source);
            }
            bench.pass(300);
            return bench;
        });
        Scene[] scenes = {Scene.NEW, Scene.NONE_WHOLE, forgotten};
        for (Scene scene : scenes) {
            for (int what = 0; what <= 3; what++) {
                int asked = what;
                scene.refuses(check, "about " + what, IllegalStateException.class, bench -> bench.about(asked));
            }
        }
    }

    private static void tells(Check check, PieceBench bench, int source, int goal, int number, int size) {
        check.same("about 0", bench.about(0), source);
        check.same("about 1", bench.about(1), goal);
        check.same("about 2", bench.about(2), number);
        check.same("about 3", bench.about(3), size);
    }
}
