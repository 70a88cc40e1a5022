/** Promises 6 and 7: how many, STOP, CLEAR and RCU, and go. */
final class RunTest {
    public static void main(String[] args) {
        counts();
        stops();
        ringZeroAlone();
        clears();
        goesBack();
        goes();
        Due.end();
    }

    private static void counts() {
        Bench b = new Bench();
        Due.is("run(0)", b.x.run(0), 0);
        b.counter("run(0)", 1, 0, 0).run(1).counter("run(1)", 1, 1, 0).run(5).counter("run(5)", 1, 6, 0);
        b.run(100).counter("run(100)", 1, 106, 0);
        for (int n : new int[] {-1, 101, 1001, Integer.MIN_VALUE, Integer.MAX_VALUE}) {
            Due.illegal("run(" + n + ")", () -> b.x.run(n));
        }
        b.counter("after wrong runs", 1, 106, 0);
    }

    private static void stops() {
        Bench b = new Bench().code(0, 0, Words.op(Words.STOP, 0), 0);
        Due.is("run to STOP", b.x.run(100), 3);
        Due.is("stopped", b.x.state(0), 1);
        b.counter("behind STOP", 1, 3, 0).noFault("STOP is no fault");
        Due.is("run when stopped", b.x.run(100), 0);
        Due.is("run(0) when stopped", b.x.run(0), 0);
        Due.illegal("run(101) when stopped", () -> b.x.run(101));
        b.counter("still there", 1, 3, 0);
        Bench exact = new Bench().code(0, Words.op(Words.STOP, 0)).run(2);
        Due.is("stopped by the last of them", exact.x.state(0), 1);
        // A fault counts, as does the one by which it stops.
        Bench fault = new Bench().code(0, Words.op(63, 0));
        fault.x.poke(64 + 16 + 6, 0);
        fault.x.poke(64 + 16 + 7, Words.op(62, 0));
        Due.is("run to a fault's fault", fault.x.run(100), 4);
        Due.is("stopped by it", fault.x.state(0), 1);
    }

    private static void ringZeroAlone() {
        for (int what = Words.CLEAR; what <= Words.STOP; what++) {
            for (int ring = 1; ring <= 4; ring++) {
                Bench b = new Bench().code(0, Words.op(what, 0)).at(1, 1, ring).run(1);
                b.fault("instruction " + what + " in ring " + ring, 7, 1, 1).copies("no CLEAR", 0, 1);
                Due.is("not stopped", b.x.state(0), 0);
            }
        }
    }

    private static void clears() {
        Bench b = new Bench().code(Words.op(Words.LDA, 3, 0), Words.op(Words.CLEAR, 0), 0);
        b.run(1).copies("LDA", 0, 3, 1).copies("LDA", 1, 192);
        b.run(1).copies("CLEAR", 0).copies("CLEAR", 1).counter("CLEAR", 1, 2, 0).noFault("CLEAR");
        b.run(1).copies("behind CLEAR", 0, 1).copies("behind CLEAR", 1);
    }

    private static void goesBack() {
        new Bench().code(Words.op(Words.RCU, 0)).run(1).fault("RCU when it does not HANDLE", 6, 1, 0);
        Bench b = new Bench().code(0, 0, Words.op(Words.LDA, 2, 0)).pointTo(2, 14, 0, 0).at(1, 2, 3);
        b.x.poke(64 + 17, Words.op(Words.RCU, 0));
        b.run(1).fault("LDA of no segment", 1, 14, 0).run(1);
        b.counter("RCU", 1, 2, 3);
        Due.is("handles no more", b.x.state(1), 0);
        Due.is("saved stays", b.x.saved(), Words.pointer(1, 2, 3));
        b.told("and so does the fault", 1, 14, 0);
        b.data(55).pointTo(2, 2, 0, 0).run(1).register("it goes on", Words.A, 55).counter("it goes on", 1, 3, 3);
        // RCU in ring 3, when it HANDLES: the ring comes first.
        Bench c = new Bench().code(Words.op(63, 0), Words.op(Words.RCU, 0)).run(1).at(1, 1, 3).run(1);
        c.told("RCU in ring 3", 7, 1, 1);
        Due.is("it stops by it", c.x.state(0), 1);
    }

    private static void goes() {
        Bench b = new Bench().code(Words.op(Words.STOP, 0), 0).run(1);
        b.x.go();
        Due.is("stopped no more", b.x.state(0), 0);
        b.run(1).counter("it goes on", 1, 2, 0);
        Bench c = new Bench().code(Words.op(63, 0));
        c.x.poke(64 + 22, Words.op(63, 0));
        c.run(2);
        Due.is("stopped", c.x.state(0), 1);
        c.x.go();
        Due.is("stopped no more", c.x.state(0), 0);
        Due.is("handles no more", c.x.state(1), 0);
        c.counter("the counter stays", 0, 22, 0).told("the fault stays", 6, 0, 22);
        c.run(1).fault("once more", 6, 0, 22);
        Due.is("and now it was SAVED", c.x.saved(), Words.pointer(0, 22, 0));
        Bench d = new Bench();
        d.x.go();
        d.run(1).counter("go of one that goes", 1, 1, 0);
    }
}
