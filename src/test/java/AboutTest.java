/** Promise 5. */
public final class AboutTest {
    public static void main(String[] args) {
        Check check = new Check();
        PieceBench bench = new PieceBench();
        Check.start(bench, 1);
        refusesWrongQuestions(check, bench);
        check.refused("about before one was whole", IllegalStateException.class, () -> bench.about(0));
        check.refused("about 3 before one was whole", IllegalStateException.class, () -> bench.about(3));

        bench.feed(0, 5);
        bench.piece(Integer.MIN_VALUE, Integer.MAX_VALUE, -1, 0, 5);
        tells(check, bench, Integer.MIN_VALUE, Integer.MAX_VALUE, -1, 5);
        refusesWrongQuestions(check, bench);

        // Neither one that waits nor one that is given up takes the place of the one that was whole.
        for (int source = 10; source < 16; source++) {
            Check.start(bench, source);
        }
        bench.pass(300);
        tells(check, bench, Integer.MIN_VALUE, Integer.MAX_VALUE, -1, 5);

        bench.feed(0, 1);
        bench.piece(7, 8, 9, 0, 1);
        tells(check, bench, 7, 8, 9, 1);
        check.end();
    }

    private static void tells(Check check, PieceBench bench, int source, int goal, int number, int size) {
        check.same("about 0", bench.about(0), source);
        check.same("about 1", bench.about(1), goal);
        check.same("about 2", bench.about(2), number);
        check.same("about 3", bench.about(3), size);
    }

    private static void refusesWrongQuestions(Check check, PieceBench bench) {
        int[] wrong = {-1, 4, Integer.MIN_VALUE, Integer.MAX_VALUE};
        for (int what : wrong) {
            check.refused("about " + what, IllegalArgumentException.class, () -> bench.about(what));
        }
    }
}
