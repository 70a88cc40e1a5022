/** The edges of interrupts, "the lowest first", and of run's count (promises 6 to 10). */
final class EdgesOfInterruptsTest {
    private static final long RCU = Words.op(Words.RCU, 0);

    public static void main(String[] args) {
        numbers();
        everySetLowestFirst();
        askedForAgain();
        insteadOfAnInstruction();
        notWhenItHandles();
        notWhenItIsStopped();
        theCountersOwnPlace();
        howMany();
        howManyToAStop();
        howManyToAFaultsFault();
        goOfAnything();
        Due.end();
    }

    /** With RCU at each interrupt's entry. */
    private static Bench bench() {
        return new Bench().words(64 + 24, RCU, RCU, RCU, RCU);
    }

    /** "INTERRUPTS 0 .. 3". */
    private static void numbers() {
        for (int k : new int[] {0, 3}) {
            Bench b = bench();
            b.x.interrupt(k);
            Due.is("interrupt " + k, b.x.state(5), 1 << k);
            b.run(1).fault("interrupt " + k, 8 + k, 1, 0);
        }
        for (int k : new int[] {Integer.MIN_VALUE, -1, 4, 31, 32, 33, Integer.MAX_VALUE}) {
            Bench b = bench();
            Due.outOfBounds("interrupt(" + k + ")", () -> b.x.interrupt(k));
            Due.is("none asked for", b.x.state(5), 0);
            b.run(1).noFault("none is taken");
        }
    }

    /** "asked for, and taken, the lowest first". */
    private static void everySetLowestFirst() {
        for (int set = 0; set < 16; set++) {
            Bench b = bench();
            for (int k = 3; k >= 0; k--) {
                if ((set & 1 << k) != 0) {
                    b.x.interrupt(k);
                }
            }
            int left = set;
            for (int k = 0; k < 4; k++) {
                if ((set & 1 << k) != 0) {
                    left -= 1 << k;
                    b.run(1).fault("of set " + set, 8 + k, 1, 0);
                    Due.is("those left of set " + set, b.x.state(5), left);
                    b.run(1).counter("RCU", 1, 0, 0);
                }
            }
            b.run(1).counter("behind all of set " + set, 1, 1, 0);
            Due.is("none left of set " + set, b.x.state(5), 0);
        }
    }

    /** One that is asked for twice is one; one that was taken may be asked for again. */
    private static void askedForAgain() {
        Bench b = bench();
        b.x.interrupt(1);
        b.x.interrupt(1);
        Due.is("twice", b.x.state(5), 2);
        b.run(2).counter("taken once", 1, 0, 0).run(1).counter("no more", 1, 1, 0);
        b.x.interrupt(1);
        b.run(1).fault("again", 9, 1, 1);
        // While it HANDLES this very one; a lower one is taken ahead of it then.
        b.x.interrupt(1);
        b.x.interrupt(0);
        Due.is("asked for when it HANDLES", b.x.state(5), 3);
        b.run(2).fault("the lower one", 8, 1, 1).run(2).fault("and then", 9, 1, 1);
    }

    /** "instead of an instruction", though this could not be reached, or would stop. */
    private static void insteadOfAnInstruction() {
        Bench b = bench().at(14, 7, 3);
        b.x.interrupt(2);
        b.run(1).fault("ahead of fault 1", 10, 14, 7).copies("nothing is looked for", 0).run(1);
        b.counter("RCU", 14, 7, 3).run(1).fault("fault 1", 1, 14, 7);
        Bench c = bench().code(Words.op(Words.STOP, 0));
        c.x.interrupt(2);
        c.run(2);
        Due.is("ahead of STOP", c.x.state(0), 0);
        c.run(1);
        Due.is("then STOP", c.x.state(0), 1);
        Bench d = bench().code(Words.op(Words.EAA, 2, 9));
        d.x.interrupt(3);
        Snapshot before = new Snapshot(d.x, new int[] {0, 32}, new int[] {128, 4});
        d.run(1);
        before.stays("an interrupt", "get(10)", "state", "saved");
    }

    /** "if it does not HANDLE". */
    private static void notWhenItHandles() {
        Bench b = bench().code(Words.op(50, 0)).words(64 + 22, 0, 0, Words.op(40, 0)).run(1);
        b.x.interrupt(0);
        b.run(2).told("it HANDLES", 6, 1, 0).run(1).told("it stops by a fault of its own", 6, 0, 24);
        Due.is("still asked for", b.x.state(5), 1);
        Due.is("stopped", b.x.state(0), 1);
        b.x.go();
        b.run(1).fault("behind go()", 8, 0, 24);
        Due.is("saved", b.x.saved(), Words.pointer(0, 24, 0));
        Bench c = bench().code(Words.op(50, 0)).words(64 + 22, 0, RCU).run(1);
        c.x.interrupt(3);
        c.run(2).counter("behind RCU", 1, 0, 0).run(1).fault("behind RCU", 11, 1, 0);
    }

    private static void notWhenItIsStopped() {
        Bench b = bench().code(Words.op(Words.STOP, 0)).run(1);
        b.x.interrupt(0);
        Due.is("run(100) when it is STOPPED", b.x.run(100), 0);
        b.noFault("STOPPED").counter("STOPPED", 1, 1, 0);
        Due.is("still asked for", b.x.state(5), 1);
        b.x.go();
        Due.is("go() leaves it", b.x.state(5), 1);
        b.run(1).fault("then", 8, 1, 1);
    }

    /** "with fault 8 + its number, the counter's own segment and word", and the RING of then in saved(). */
    private static void theCountersOwnPlace() {
        for (int ring = 0; ring < 8; ring++) {
            Bench b = bench().at(15, 4095, ring);
            b.x.interrupt(1);
            b.run(1).fault("the last place", 9, 15, 4095);
            Due.is("saved", b.x.saved(), Words.pointer(15, 4095, ring));
            b.run(1).counter("RCU", 15, 4095, ring).told("it stays told", 9, 15, 4095);
        }
    }

    /** "At most n instructions, faults and interrupts", n 0 .. 100. */
    private static void howMany() {
        for (int n : new int[] {0, 1, 99, 100}) {
            new Bench().run(n).counter("run(" + n + ")", 1, n, 0);
        }
        for (int n : new int[] {Integer.MIN_VALUE, -100, -1, 101, 200, Integer.MAX_VALUE}) {
            Bench b = bench();
            b.x.interrupt(1);
            Due.illegal("run(" + n + ")", () -> b.x.run(n));
            b.counter("run(" + n + ")", 1, 0, 0).noFault("run(" + n + ")");
            Due.is("still asked for", b.x.state(5), 2);
        }
        // A fault is one, an interrupt is one, an instruction is one.
        Bench b = bench().code(Words.op(50, 0)).words(64 + 22, RCU);
        b.x.interrupt(2);
        b.run(1).fault("an interrupt", 10, 1, 0).run(1).counter("RCU", 1, 0, 0).run(1).fault("a fault", 6, 1, 0);
        b.run(1).counter("RCU", 1, 0, 0).run(99).counter("49 faults and RCUs, and a fault", 0, 22, 0);
    }

    /** "until it is STOPPED: how many (STOP ... count)". */
    private static void howManyToAStop() {
        for (int at : new int[] {0, 1, 98, 99, 100, 101}) {
            Bench b = new Bench();
            b.x.poke(Bench.CODE + at, Words.op(Words.STOP, 0));
            Due.is("run(100) to STOP at " + at, b.x.run(100), Math.min(at + 1, 100));
            Due.is("STOP at " + at, b.x.state(0), at < 100 ? 1 : 0);
            Due.is("run(at) to STOP at " + at, untilBefore(at), 0);
        }
        Bench b = new Bench().code(Words.op(Words.STOP, 0)).run(1);
        for (int n : new int[] {0, 1, 100}) {
            Due.is("run(" + n + ") when it is STOPPED", b.x.run(n), 0);
        }
        for (int n : new int[] {-1, 101}) {
            Due.illegal("run(" + n + ") when it is STOPPED", () -> b.x.run(n));
        }
    }

    /** Whether it is STOPPED when one fewer are done than STOP needs. */
    private static int untilBefore(int at) {
        Bench b = new Bench();
        b.x.poke(Bench.CODE + at, Words.op(Words.STOP, 0));
        b.run(Math.min(at, 100));
        return b.x.state(0);
    }

    /** "and a fault by which it stops, count". */
    private static void howManyToAFaultsFault() {
        for (int more : new int[] {0, 1, 97, 98, 99}) {
            // A fault, then so many instructions of its entry, then a second fault.
            Bench b = new Bench().code(Words.op(50, 0)).segment(0, Words.first(2000, 255), Words.second(0, 0, 0, Words.ALL, 0));
            b.x.poke(2000 + 22 + more, Words.op(51, 0));
            Due.is("run(100) to a fault behind " + more, b.x.run(100), Math.min(more + 2, 100));
            Due.is("it stops behind " + more, b.x.state(0), more <= 98 ? 1 : 0);
            Due.is("fault behind " + more, b.x.state(4), more <= 98 ? 22 + more : 0);
        }
    }

    /** "It is STOPPED no more, and HANDLES no more", and nothing else is another. */
    private static void goOfAnything() {
        Bench[] all = {bench(), bench().run(3), bench().code(Words.op(Words.STOP, 0)).run(1), bench().code(Words.op(50, 0)).run(1),
            bench().code(Words.op(50, 0)).words(64 + 22, Words.op(50, 0)).run(2)};
        for (Bench b : all) {
            b.x.interrupt(2);
            Snapshot before = new Snapshot(b.x, new int[] {0, 32}, new int[] {128, 4});
            b.x.go();
            before.stays("go()", "state(0)", "state(1)");
            Due.is("go(): STOPPED", b.x.state(0), 0);
            Due.is("go(): HANDLES", b.x.state(1), 0);
            b.x.go();
            before.stays("go() twice", "state(0)", "state(1)");
        }
    }
}
