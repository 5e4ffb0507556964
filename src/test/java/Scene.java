import java.util.ArrayList;
import java.util.List;
import java.util.function.Consumer;
import java.util.function.Supplier;

/**
 * A state of a PieceBench that can be made again and again, so that looking at it may use the object up. Two scenes
 * in which every look shows the same are the same state. Making and looking stay within the 512 calls of one object.
 */
final class Scene {
    static final Scene NEW = new Scene("a new one", PieceBench::new);
    static final Scene NONE_WHOLE = new Scene("four wait, none was whole, nothing fed", Scene::makeNoneWhole);
    static final Scene BUSY = new Scene("four wait, one was whole, five bytes fed", Scene::makeBusy);
    static final Scene FULL = new Scene("two wait, one was whole, 1480 bytes fed", Scene::makeFull);

    static List<Scene> all() {
        return List.of(NEW, NONE_WHOLE, BUSY, FULL);
    }

    private static final int[][] NAMES = {
        {0, 0, 0}, {1, 0, 0}, {2, 0, 0}, {3, 0, 0}, {4, 0, 0}, {5, 0, 0}, {0, 1, 0}, {0, 0, 1},
    };
    private static final int HIGHEST_LOOKED_AT = 13;

    private final String name;
    private final Supplier<PieceBench> maker;
    private List<String> seen;

    Scene(String name, Supplier<PieceBench> maker) {
        this.name = name;
        this.maker = maker;
    }

    PieceBench make() {
        return maker.get();
    }

    /** The call throws that very class, and the object goes on as one that was never asked. */
    void refuses(Check check, String what, Class<? extends RuntimeException> due, Consumer<PieceBench> call) {
        String where = name + ", " + what;
        PieceBench asked = make();
        check.refused(where, due, () -> call.accept(asked));
        new Scene(where, () -> {
            PieceBench bench = make();
            Check.answer(() -> {
                call.accept(bench);
                return 0;
            });
            return bench;
        }).sameAs(check, this);
    }

    void sameAs(Check check, Scene due) {
        List<String> got = look();
        List<String> wanted = due.look();
        check.same(name + ": how much is seen", got.size(), wanted.size());
        for (int k = 0; k < got.size() && k < wanted.size(); k++) {
            if (!got.get(k).equals(wanted.get(k))) {
                check.same(name + ": what is seen at " + k, got.get(k), wanted.get(k));
                return;
            }
        }
    }

    private List<String> look() {
        if (seen == null) {
            seen = new ArrayList<>();
            lookAtAll(make());
            lookAtWhatIsFed(make());
            lookAtTheOrder(make());
            lookAtTheAges(make());
        }
        return seen;
    }

    private void lookAtAll(PieceBench bench) {
        lookAtTheWaiting(bench);
        for (int[] told : NAMES) {
            for (int i = 0; i <= HIGHEST_LOOKED_AT; i++) {
                see("has " + i, bench.has(told[0], told[1], told[2], i) ? 1 : 0);
            }
        }
        for (int what = 0; what <= 3; what++) {
            int asked = what;
            seen.add("about " + what + " " + Check.answer(() -> bench.about(asked)));
        }
        for (int i = 0; i <= HIGHEST_LOOKED_AT; i++) {
            int place = i;
            seen.add("byteAt " + i + " " + Check.answer(() -> bench.byteAt(place)));
        }
    }

    private void lookAtTheWaiting(PieceBench bench) {
        see("waiting", bench.waiting());
        for (int[] told : NAMES) {
            see("missing", bench.missing(told[0], told[1], told[2]));
        }
    }

    /** All the bytes fed become one datagram. */
    private void lookAtWhatIsFed(PieceBench bench) {
        String answer = Check.answer(() -> bench.feed(0xEE, 1));
        seen.add("feed " + answer);
        int count = answer.startsWith("throws") ? 1480 : Integer.parseInt(answer);
        see("piece of what is fed", bench.piece(99, 0, 0, 0, count));
        for (int i = 0; i < count; i += count > 100 ? 11 : 1) {
            see("fed", bench.byteAt(i));
        }
        see("fed last", bench.byteAt(count - 1));
    }

    private void lookAtTheOrder(PieceBench bench) {
        seen.add("piece of what is fed " + Check.answer(() -> bench.piece(98, 0, 0, 0, 1480)));
        for (int source = 100; source < 104; source++) {
            Check.start(bench, source);
            lookAtTheWaiting(bench);
        }
    }

    private void lookAtTheAges(PieceBench bench) {
        for (int tick = 1; tick <= 300; tick++) {
            see("given up at " + tick, bench.pass(1));
        }
    }

    private void see(String what, long answer) {
        seen.add(what + " " + answer);
    }

    private static PieceBench makeNoneWhole() {
        PieceBench bench = new PieceBench();
        startFour(bench);
        return bench;
    }

    private static PieceBench makeBusy() {
        PieceBench bench = new PieceBench();
        Check.send(bench, 0, 0, 3, 60, 3);
        startFour(bench);
        Check.feed(bench, 200, 5);
        return bench;
    }

    private static PieceBench makeFull() {
        PieceBench bench = new PieceBench();
        Check.send(bench, 0, 0, 3, 60, 3);
        Check.start(bench, 1);
        bench.pass(7);
        Check.start(bench, 2);
        Check.feed(bench, 5, 1480);
        return bench;
    }

    /** Datagrams of ten bytes, two of which have come, of the ages 30, 20, 10 and 0. */
    private static void startFour(PieceBench bench) {
        for (int source = 1; source <= 4; source++) {
            Check.send(bench, source, source, 10, 10 * source, 2);
            if (source < 4) {
                bench.pass(10);
            }
        }
    }
}
