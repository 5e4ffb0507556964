/** The section "Terms", which holds for all promises; MemoryTest has its sentence on memory. */
public final class TermsTest {
    private static final int LEAST = Integer.MIN_VALUE;
    private static final int MOST = Integer.MAX_VALUE;
    private static final int NONE = PieceBench.NONE;

    public static void main(String[] args) {
        Check check = new Check();
        tellsDatagramsByThreeNumbers(check);
        theFirstByteCounts(check);
        fourWaitAndTheFifthDrivesOut(check);
        theFirstPieceMakesTheOrder(check);
        drivesOutForOneThatIsWholeByIt(check);
        drivesNoneOutForOneThatWaits(check);
        drivesNoneOutWhileThereIsRoom(check);
        givesUpAt300Ticks(check);
        givesUpFromTheFirstPieceOn(check);
        beginsAnewWhatWasWhole(check);
        beginsAnewWhatWasDrivenOut(check);
        beginsAnewWhatWasGivenUp(check);
        takesANewTurn(check);
        throwsTheOneNamedFirst(check);
        check.end();
    }

    /** "Which is told by three numbers (its source, goal and number, any ints)". */
    private static void tellsDatagramsByThreeNumbers(Check check) {
        int[][][] fours = {
            {{1, 2, 3}, {3, 2, 1}, {1, 3, 2}, {2, 2, 2}},
            {{0, 0, 0}, {1, 0, 0}, {0, 1, 0}, {0, 0, 1}},
            {{LEAST, MOST, -1}, {MOST, LEAST, -1}, {-1, -1, -1}, {0, 0, 0}},
            {{MOST, MOST, MOST}, {LEAST, LEAST, LEAST}, {LEAST, MOST, MOST}, {MOST, MOST, LEAST}},
        };
        for (int[][] four : fours) {
            putTogetherByTurns(check, four);
        }
    }

    private static void putTogetherByTurns(Check check, int[][] names) {
        PieceBench bench = new PieceBench();
        for (int k = 0; k < names.length; k++) {
            bench.feed(k, 1);
            check.same("the first piece of " + k, bench.piece(names[k][0], names[k][1], names[k][2], 0, 2), 0);
            check.same("waiting", bench.waiting(), k + 1);
        }
        for (int k = 0; k < names.length; k++) {
            bench.feed(100 + k, 1);
            check.same("the second piece of " + k, bench.piece(names[k][0], names[k][1], names[k][2], 1, 2), 1);
            check.same("byte 0 of " + k, bench.byteAt(0), k);
            check.same("byte 1 of " + k, bench.byteAt(1), 100 + k);
        }
    }

    /** "Of bytes that come for the same place the first one counts": over the left, the right, all, and inside. */
    private static void theFirstByteCounts(Check check) {
        PieceBench bench = new PieceBench();
        Check.send(bench, 1, 4, 12, 100, 4);
        check.same("over its left end", Check.send(bench, 1, 3, 12, 110, 2), 0);
        check.same("over its right end", Check.send(bench, 1, 7, 12, 120, 2), 0);
        check.same("inside it", Check.send(bench, 1, 5, 12, 130, 2), 0);
        check.same("the very same place", Check.send(bench, 1, 4, 12, 140, 4), 0);
        check.same("around it", Check.send(bench, 1, 1, 12, 150, 10), 0);
        check.same("missing", Check.missing(bench, 1), 2);
        check.same("over all", Check.send(bench, 1, 0, 12, 200, 12), 1);
        int[] due = {200, 150, 151, 110, 100, 101, 102, 103, 121, 158, 159, 211};
        for (int i = 0; i < due.length; i++) {
            check.same("byte " + i, bench.byteAt(i), due[i]);
        }
        // A byte 0 or 255 that has come is a byte as any other.
        int[] edges = {0, 255};
        for (int edge : edges) {
            Check.send(bench, 2, 0, 2, edge, 1);
            check.same("over the byte " + edge, Check.send(bench, 2, 0, 2, 7, 2), 1);
            check.same("the byte " + edge, bench.byteAt(0), edge);
            check.same("the byte behind it", bench.byteAt(1), 8);
        }
    }

    /** "At most 4 wait; when a piece of another one comes .. that whose first piece came earliest is driven out". */
    private static void fourWaitAndTheFifthDrivesOut(Check check) {
        PieceBench bench = new PieceBench();
        Check.startFour(bench);
        for (int source = 1; source <= 4; source++) {
            check.same("four wait: missing of " + source, Check.missing(bench, source), 1);
        }
        // More than twice round, so that each place of the bench is driven out of more than once.
        for (int source = 5; source <= 14; source++) {
            check.same("the first piece of " + source, Check.start(bench, source), 0);
            check.same("waiting", bench.waiting(), 4);
            check.same("missing of the earliest", Check.missing(bench, source - 4), NONE);
            for (int other = source - 3; other <= source; other++) {
                check.same("missing of " + other, Check.missing(bench, other), 1);
            }
        }
    }

    private static void theFirstPieceMakesTheOrder(Check check) {
        PieceBench bench = new PieceBench();
        for (int source = 1; source <= 4; source++) {
            Check.send(bench, source, 0, 9, 0, 1);
        }
        // Neither a further piece nor one that counts for nothing makes a datagram any younger.
        Check.send(bench, 1, 1, 9, 0, 1);
        Check.send(bench, 1, 0, 8, 0, 1);
        Check.start(bench, 5);
        check.same("missing of 1", Check.missing(bench, 1), NONE);
        check.same("missing of 2", Check.missing(bench, 2), 8);
        // One of the middle is whole: the order of the rest stays.
        check.same("3 is whole", Check.send(bench, 3, 0, 9, 0, 9), 1);
        Check.start(bench, 6);
        check.same("missing of 2 still", Check.missing(bench, 2), 8);
        int[] driven = {2, 4, 5, 6};
        for (int k = 0; k < driven.length; k++) {
            Check.start(bench, 10 + k);
            check.same("missing of " + driven[k], Check.missing(bench, driven[k]), NONE);
            if (k + 1 < driven.length) {
                check.same("next to go is " + driven[k + 1], Check.missing(bench, driven[k + 1]) > 0, true);
            }
        }
    }

    /** "(also if that is whole by it)". */
    private static void drivesOutForOneThatIsWholeByIt(Check check) {
        PieceBench bench = new PieceBench();
        Check.startFour(bench);
        check.same("whole at once", Check.send(bench, 5, 0, 2, 70, 2), 1);
        check.same("waiting", bench.waiting(), 3);
        check.same("missing of 1", Check.missing(bench, 1), NONE);
        for (int source = 2; source <= 4; source++) {
            check.same("missing of " + source, Check.missing(bench, source), 1);
        }
        check.same("the one that was whole", bench.about(0), 5);
        check.same("its byte", bench.byteAt(1), 71);
    }

    /** A piece of one of the four is no piece of another one, whatever it answers. */
    private static void drivesNoneOutForOneThatWaits(Check check) {
        for (int source = 1; source <= 4; source++) {
            PieceBench bench = new PieceBench();
            Check.startFour(bench);
            check.same("twice", Check.start(bench, source), 0);
            check.same("another whole", Check.send(bench, source, 0, 3, 0, 1), NONE);
            check.same("waiting", bench.waiting(), 4);
            check.same("whole", Check.send(bench, source, 1, 2, 0, 1), 1);
            check.same("waiting then", bench.waiting(), 3);
            check.same("missing of the whole one", Check.missing(bench, source), NONE);
        }
    }

    private static void drivesNoneOutWhileThereIsRoom(Check check) {
        PieceBench bench = new PieceBench();
        for (int source = 1; source <= 3; source++) {
            Check.start(bench, source);
        }
        check.same("whole at once beside three", Check.send(bench, 5, 0, 1, 0, 1), 1);
        check.same("waiting", bench.waiting(), 3);
        check.same("the fourth", Check.start(bench, 4), 0);
        for (int source = 1; source <= 4; source++) {
            check.same("missing of " + source, Check.missing(bench, source), 1);
        }
        // One that is given up leaves room too.
        bench.pass(300);
        Check.startFour(bench);
        check.same("waiting after room was made", bench.waiting(), 4);
        check.same("missing of 1 then", Check.missing(bench, 1), 1);
    }

    /** "One is given up when 300 ticks have gone by since its first piece came": at 299, 300 and 301. */
    private static void givesUpAt300Ticks(Check check) {
        int[] before = {0, 1, 299, 300, 1000000};
        for (int earlier : before) {
            for (int ticks = 298; ticks <= 301; ticks++) {
                PieceBench bench = new PieceBench();
                bench.pass(earlier);
                Check.start(bench, 1);
                check.same("given up by " + ticks, bench.pass(ticks), ticks >= 300 ? 1 : 0);
                check.same("waiting after " + ticks, bench.waiting(), ticks >= 300 ? 0 : 1);
                check.same("missing after " + ticks, Check.missing(bench, 1), ticks >= 300 ? NONE : 1);
            }
        }
        PieceBench bench = new PieceBench();
        Check.start(bench, 1);
        for (int tick = 1; tick <= 301; tick++) {
            check.same("given up at tick " + tick, bench.pass(1), tick == 300 ? 1 : 0);
        }
        PieceBench whole = new PieceBench();
        Check.start(whole, 1);
        whole.pass(299);
        check.same("whole at the last tick", Check.send(whole, 1, 1, 2, 0, 1), 1);
        check.same("none is given up then", whole.pass(1), 0);
    }

    private static void givesUpFromTheFirstPieceOn(Check check) {
        PieceBench bench = new PieceBench();
        Check.send(bench, 1, 0, 9, 0, 1);
        bench.pass(299);
        Check.send(bench, 1, 1, 9, 0, 1);
        Check.send(bench, 1, 1, 8, 0, 1);
        Check.start(bench, 2);
        check.same("the first is given up", bench.pass(1), 1);
        check.same("missing of the second", Check.missing(bench, 2), 1);
        check.same("the second waits 298 more", bench.pass(298), 0);
        check.same("the second is given up", bench.pass(1), 1);
    }

    /** "Is forgotten: a further piece begins it anew": its bytes, its whole, its 300 ticks and its turn. */
    private static void beginsAnewWhatWasWhole(Check check) {
        PieceBench bench = new PieceBench();
        Check.start(bench, 1);
        Check.start(bench, 2);
        bench.pass(200);
        check.same("1 is whole", Check.send(bench, 1, 1, 2, 50, 1), 1);
        beginsAnew(check, bench);
        check.same("the old one is still told", bench.about(3), 2);
        check.same("its byte too", bench.byteAt(1), 50);
        check.same("300 ticks of the old one and of 2", bench.pass(100), 1);
        check.same("299 ticks of the new one", bench.pass(199), 0);
        check.same("300 ticks of the new one", bench.pass(1), 1);
    }

    private static void beginsAnewWhatWasDrivenOut(Check check) {
        PieceBench bench = new PieceBench();
        Check.startFour(bench);
        bench.pass(200);
        Check.start(bench, 5);
        check.same("1 is driven out", Check.missing(bench, 1), NONE);
        beginsAnew(check, bench);
        check.same("2 is driven out by it", Check.missing(bench, 2), NONE);
        check.same("300 ticks of the old one, of 3 and of 4", bench.pass(100), 2);
        check.same("299 ticks of the new one", bench.pass(199), 0);
        check.same("300 ticks of the new one and of 5", bench.pass(1), 2);
    }

    private static void beginsAnewWhatWasGivenUp(Check check) {
        PieceBench bench = new PieceBench();
        Check.start(bench, 1);
        bench.pass(200);
        Check.start(bench, 2);
        check.same("1 is given up", bench.pass(100), 1);
        beginsAnew(check, bench);
        check.same("299 ticks of 2", bench.pass(199), 0);
        check.same("300 ticks of 2", bench.pass(1), 1);
        check.same("299 ticks of the new one", bench.pass(99), 0);
        check.same("300 ticks of the new one", bench.pass(1), 1);
    }

    /** The last byte of the datagram 1 comes, of three that it has now: nothing else of it is there. */
    private static void beginsAnew(Check check, PieceBench bench) {
        check.same("a further piece", Check.send(bench, 1, 2, 3, 9, 1), 0);
        check.same("missing", Check.missing(bench, 1), 2);
        for (int i = 0; i < 3; i++) {
            check.same("has " + i, bench.has(1, 0, 0, i), i == 2);
        }
        check.same("its old whole", Check.send(bench, 1, 0, 2, 0, 1), NONE);
    }

    private static void takesANewTurn(Check check) {
        PieceBench whole = new PieceBench();
        Check.startFour(whole);
        Check.send(whole, 1, 1, 2, 0, 1);
        goesLast(check, "one that was whole", whole);

        PieceBench drivenOut = new PieceBench();
        Check.startFour(drivenOut);
        Check.start(drivenOut, 5);
        goesLast(check, "one that was driven out", drivenOut);

        PieceBench givenUp = new PieceBench();
        Check.start(givenUp, 1);
        givenUp.pass(300);
        for (int source = 2; source <= 4; source++) {
            Check.start(givenUp, source);
        }
        goesLast(check, "one that was given up", givenUp);
    }

    /** The datagram 1 begins anew as the last of four, and is driven out by the fourth that comes then. */
    private static void goesLast(Check check, String what, PieceBench bench) {
        Check.start(bench, 1);
        check.same(what + ", waiting", bench.waiting(), 4);
        for (int source = 10; source <= 12; source++) {
            Check.start(bench, source);
            check.same(what + ", missing beside " + source, Check.missing(bench, 1), 1);
        }
        Check.start(bench, 13);
        check.same(what + ", missing at its turn", Check.missing(bench, 1), NONE);
    }

    /** "Of several exceptions the one named first is thrown". */
    private static void throwsTheOneNamedFirst(Check check) {
        Class<IllegalArgumentException> argument = IllegalArgumentException.class;
        Class<IllegalStateException> state = IllegalStateException.class;
        Scene.FULL.refuses(check, "feed of 0, and no room", argument, bench -> bench.feed(0, 0));
        Scene.FULL.refuses(check, "feed of 9, and no room", argument, bench -> bench.feed(0, 9));
        Scene.NEW.refuses(check, "whole 0, nothing fed", argument, bench -> bench.piece(1, 0, 0, 0, 0));
        Scene.NEW.refuses(check, "from -1, nothing fed", argument, bench -> bench.piece(1, 0, 0, -1, 5));
        Scene.FULL.refuses(check, "whole 1481, beyond it", argument, bench -> bench.piece(1, 0, 0, 2, 1481));
        Scene.FULL.refuses(check, "from -1, beyond the whole", argument, bench -> bench.piece(1, 0, 0, -1, 5));
        Scene.NONE_WHOLE.refuses(check, "about 4, none whole", argument, bench -> bench.about(4));
        Scene.NONE_WHOLE.refuses(check, "byteAt -1, none whole", state, bench -> bench.byteAt(-1));
        Scene.NONE_WHOLE.refuses(check, "byteAt 1480, none whole", state, bench -> bench.byteAt(1480));
    }
}
