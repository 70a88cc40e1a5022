/** Promises 6, 9 and 10: which fault, what of it is SAVED, and that nothing else has changed. */
final class FaultsTest {
    /** Descriptors, some of segments 0 to 2, and of the pages of segment 3. */
    private static final int[][] PLACES = {{0, 32}, {64, 32}, {Bench.PAGES + 2, 2}, {Bench.CODE, 4}, {Bench.DATA, 32}, {Bench.FRAMES, 70}};

    public static void main(String[] args) {
        firstThatHolds();
        fetches();
        savedOnce();
        allIsAsBefore();
        otherStates();
        Due.end();
    }

    /** Each line mends the fault that came first. */
    private static void firstThatHolds() {
        Bench b = new Bench().code(Words.op(Words.LDA, 1, 100)).pointTo(1, 6, 0, 5);
        b.x.poke(128 + 1, 0);
        again(b, 0, Words.PAGED | 99L << 12 | 128, Words.second(0, 4, 0, 0, 0), 1);
        again(b, 1, Words.PAGED | Words.first(128, 99), Words.second(0, 4, 0, 0, 0), 3);
        again(b, 2, Words.PAGED | Words.first(128, 100), Words.second(0, 4, 0, Words.READ, 0), 4);
        again(b, 3, Words.PAGED | Words.first(128, 100), Words.second(0, 5, 0, Words.WRITE | Words.EXECUTE, 0), 4);
        again(b, 4, Words.PAGED | Words.first(128, 100), Words.second(0, 5, 0, Words.READ, 0), 2);
    }

    private static void again(Bench b, int run, long first, long second, int fault) {
        b.segment(6, first, second);
        // CLEAR in segment 0, so that the new descriptor is read.
        b.x.poke(64 + 40, Words.op(Words.CLEAR, 0));
        b.at(0, 40, 0).x.go();
        b.run(1).at(1, 0, 3).run(1).fault("fault " + run, fault, 6, 100);
        Due.is("saved", b.x.saved(), Words.pointer(1, 0, 3));
    }

    private static void fetches() {
        new Bench().at(14, 9, 0).run(1).fault("no segment", 1, 14, 9);
        new Bench().at(1, 256, 0).run(1).fault("above BOUND", 3, 1, 256);
        new Bench().at(1, 255, 0).run(1).noFault("at BOUND");
        new Bench().at(2, 0, 4).run(1).fault("not EXECUTED", 4, 2, 0);
        new Bench().at(1, 0, 5).run(1).fault("above R2", 4, 1, 0);
        new Bench().at(3, 0, 3).run(1).fault("below R1", 4, 3, 0);
        new Bench().at(3, 0, 4).run(1).noFault("R1");
        new Bench().at(3, 0, 5).run(1).noFault("R2");
        Bench b = new Bench().at(3, 130, 4);
        b.x.poke(Bench.PAGES + 2, Words.TOP ^ Words.THERE);
        b.run(1).fault("no page", 2, 3, 130);
        Due.is("saved", b.x.saved(), Words.pointer(3, 130, 4));
    }

    private static void savedOnce() {
        Bench b = new Bench().code(0, Words.op(50, 0)).at(1, 1, 2).run(1).fault("first", 6, 1, 1);
        b.x.poke(64 + 22, Words.op(Words.LDA, 2, 1000));
        long a = b.x.get(Words.A);
        b.run(1).told("second", 3, 2, 1000).counter("it stops at it", 0, 22, 0).register("it", Words.A, a);
        Due.is("stopped", b.x.state(0), 1);
        Due.is("handles", b.x.state(1), 1);
        Due.is("nothing is SAVED", b.x.saved(), Words.pointer(1, 1, 2));
        Due.is("no run", b.x.run(5), 0);
        Bench c = new Bench().code(Words.op(50, 0)).run(1);
        c.at(1, 9, 3).x.poke(Bench.CODE + 9, Words.op(Words.STOP, 0));
        c.run(1).told("a second of ring 3", 7, 1, 9).counter("it stops at it", 1, 9, 3);
        Due.is("nothing is SAVED", c.x.saved(), Words.pointer(1, 0, 0));
        // STOP, and what follows without a fault, leave the fault as it was told.
        Bench d = new Bench().code(Words.op(50, 0));
        d.x.poke(64 + 22, Words.op(Words.STOP, 0));
        d.run(2).told("STOP when it HANDLES", 6, 1, 0).counter("STOP", 0, 23, 0);
        Due.is("handles still", d.x.state(1), 1);
    }

    private static void allIsAsBefore() {
        for (int what = 1; what < 36; what++) {
            if (what == Words.EXQ) {
                continue;
            }
            Bench b = new Bench().code(0, Words.indexed(Words.indirect(Words.op(what, 3, 0)), 1)).at(1, 1, 2);
            b.x.poke(Bench.FRAMES + 2, Words.goesOn(Words.pointer(3, 64, 0)));
            b.x.poke(Bench.FRAMES + 64, Words.kind(7, 0, 0, 0));
            for (int k = 0; k < 6; k++) {
                b.x.set(k, k + 1);
            }
            b.x.set(Words.X + 1, 2);
            Snapshot before = new Snapshot(b.x, PLACES);
            String call = "instruction " + what;
            b.run(1).fault(call, 6, 1, 1);
            before.stays(call, "get(10)", "state", "saved", "copy");
            b.word(call, Bench.PAGES, Words.THERE | Words.USED | 20).word(call, Bench.PAGES + 1, Words.THERE | Words.USED | 21);
            b.copies("copies stay", 0, 3, 1).copies("copies stay", 1, 193, 192);
        }
    }

    private static void otherStates() {
        RingProcessor x = new Bench().run(1).x;
        for (int what : new int[] {-1, 6, 7, 100, Integer.MIN_VALUE, Integer.MAX_VALUE}) {
            Due.is("state(" + what + ")", x.state(what), RingProcessor.NONE);
        }
        Due.is("never saved", x.saved(), 0);
    }
}
