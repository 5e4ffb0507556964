import java.util.Random;
import java.util.function.LongSupplier;

/** All promises: runs of 512 calls, drawn from fixed seeds, answer as the model of the document does. */
public final class AgainstModelTest {
    private static final int RUNS = 1500;
    private static final int CALLS = 512;
    private static final int[] ODD = {-1, 0, 1, 299, 300, 1479, 1480, 1481, 1000000, 1000001, Integer.MIN_VALUE,
        Integer.MAX_VALUE, Integer.MAX_VALUE - 7};

    private final Random random;
    private final PieceBench bench = new PieceBench();
    private final Model model = new Model();
    private final int names;
    private final int largest;
    private final int longestPass;

    private AgainstModelTest(int seed) {
        random = new Random(seed);
        names = 2 + random.nextInt(7);
        int[] sizes = {2, 5, 12, 40, 200, 1480};
        largest = sizes[random.nextInt(sizes.length)];
        longestPass = 1 + random.nextInt(200);
    }

    public static void main(String[] args) {
        Check check = new Check();
        for (int seed = 0; seed < RUNS; seed++) {
            AgainstModelTest run = new AgainstModelTest(seed);
            for (int call = 1; call <= CALLS; call++) {
                run.call(check, "run " + seed + ", call " + call + ": ");
            }
        }
        check.end();
    }

    private void call(Check check, String where) {
        int kind = random.nextInt(100);
        if (kind < 32) {
            long bytes = random.nextLong();
            int n = random.nextInt(25) == 0 ? odd() : 1 + random.nextInt(8);
            both(check, where + "feed(" + bytes + ", " + n + ")", () -> bench.feed(bytes, n),
                    () -> model.feed(bytes, n));
        } else if (kind < 62) {
            callPiece(check, where);
        } else if (kind < 68) {
            int n = random.nextInt(25) == 0 ? odd() : random.nextInt(longestPass);
            both(check, where + "pass(" + n + ")", () -> bench.pass(n), () -> model.pass(n));
        } else if (kind < 74) {
            int what = random.nextInt(6) - 1;
            both(check, where + "about(" + what + ")", () -> bench.about(what), () -> model.about(what));
        } else if (kind < 84) {
            int i = random.nextInt(10) == 0 ? odd() : random.nextInt(largest + 1);
            both(check, where + "byteAt(" + i + ")", () -> bench.byteAt(i), () -> model.byteAt(i));
        } else {
            callLook(check, where);
        }
    }

    private void callPiece(Check check, String where) {
        int name = random.nextInt(names);
        int source = name & 1;
        int goal = (name >> 1) & 1;
        int number = name >> 2;
        // Mostly the same whole for the same name, so that datagrams do become whole.
        int usual = Math.max(1, largest - name);
        int whole = random.nextInt(12) == 0 ? 1 + random.nextInt(largest) : usual;
        int from = random.nextInt(3) == 0 ? 0 : random.nextInt(whole);
        int spoilt = random.nextInt(40);
        int itsWhole = spoilt == 0 ? odd() : whole;
        int itsFrom = spoilt == 1 ? odd() : from;
        both(check, where + "piece(" + source + ", " + goal + ", " + number + ", " + itsFrom + ", " + itsWhole + ")",
                () -> bench.piece(source, goal, number, itsFrom, itsWhole),
                () -> model.piece(source, goal, number, itsFrom, itsWhole));
    }

    private void callLook(Check check, String where) {
        int name = random.nextInt(names);
        int source = name & 1;
        int goal = (name >> 1) & 1;
        int number = name >> 2;
        int i = random.nextInt(10) == 0 ? odd() : random.nextInt(largest + 1);
        int kind = random.nextInt(3);
        if (kind == 0) {
            both(check, where + "waiting()", bench::waiting, model::waiting);
        } else if (kind == 1) {
            both(check, where + "missing of " + name, () -> bench.missing(source, goal, number),
                    () -> model.missing(source, goal, number));
        } else {
            both(check, where + "has " + i + " of " + name, () -> bench.has(source, goal, number, i) ? 1 : 0,
                    () -> model.has(source, goal, number, i) ? 1 : 0);
        }
    }

    private int odd() {
        return ODD[random.nextInt(ODD.length)];
    }

    private static void both(Check check, String what, LongSupplier ofBench, LongSupplier ofModel) {
        check.same(what, Check.answer(ofBench), Check.answer(ofModel));
    }
}
