/** Promises 8 to 10: interrupts. */
final class InterruptsTest {
    public static void main(String[] args) {
        each();
        lowestFirst();
        notWhenItHandles();
        notWhenStopped();
        wrongOnes();
        Due.end();
    }

    private static void each() {
        for (int k = 0; k < 4; k++) {
            Bench b = new Bench().code(0, 0, 0, Words.op(Words.LDA, 2, 0)).data(66).at(1, 3, 2);
            b.x.interrupt(k);
            Due.is("asked for", b.x.state(5), 1 << k);
            Due.is("not yet", b.x.state(2), 0);
            b.run(1).fault("interrupt " + k, 8 + k, 1, 3).register("instead of it", Words.A, 0);
            Due.is("asked for no more", b.x.state(5), 0);
            Due.is("saved", b.x.saved(), Words.pointer(1, 3, 2));
            b.copies("nothing is looked for", 0);
            b.x.poke(64 + 24 + k, Words.op(Words.RCU, 0));
            b.run(1).counter("RCU", 1, 3, 2).run(1).register("it goes on", Words.A, 66).counter("it goes on", 1, 4, 2);
        }
    }

    private static void lowestFirst() {
        Bench b = new Bench();
        for (int k = 3; k >= 0; k--) {
            b.x.interrupt(k);
            b.x.poke(64 + 24 + k, Words.op(Words.RCU, 0));
        }
        b.x.interrupt(2);
        Due.is("all asked for", b.x.state(5), 15);
        for (int k = 0; k < 4; k++) {
            b.run(1).fault("interrupt " + k, 8 + k, 1, 0);
            Due.is("those left", b.x.state(5), 15 & ~((2 << k) - 1));
            b.run(1).counter("RCU", 1, 0, 0);
        }
        b.run(1).counter("no more", 1, 1, 0);
        // Nine: four interrupts and RCUs, and an instruction.
        Bench c = new Bench();
        for (int k = 0; k < 4; k++) {
            c.x.interrupt(k);
            c.x.poke(64 + 24 + k, Words.op(Words.RCU, 0));
        }
        c.run(9).counter("nine", 1, 1, 0);
    }

    private static void notWhenItHandles() {
        Bench b = new Bench().code(Words.op(50, 0)).run(1);
        b.x.interrupt(1);
        b.run(2).counter("it handles", 0, 24, 0).told("it handles", 6, 1, 0);
        Due.is("still asked for", b.x.state(5), 2);
        b.x.go();
        b.run(1).fault("then", 9, 0, 24);
        Due.is("saved", b.x.saved(), Words.pointer(0, 24, 0));
        b.x.interrupt(1);
        Due.is("asked for again", b.x.state(5), 2);
    }

    private static void notWhenStopped() {
        Bench b = new Bench().code(Words.op(Words.STOP, 0)).run(1);
        b.x.interrupt(3);
        Due.is("run when stopped", b.x.run(10), 0);
        Due.is("still asked for", b.x.state(5), 8);
        Due.is("still stopped", b.x.state(0), 1);
        b.x.go();
        b.run(1).fault("then", 11, 1, 1);
    }

    private static void wrongOnes() {
        RingProcessor x = new RingProcessor();
        for (int k : new int[] {-1, 4, 5, 32, Integer.MIN_VALUE, Integer.MAX_VALUE}) {
            Due.outOfBounds("interrupt(" + k + ")", () -> x.interrupt(k));
        }
        Due.is("none asked for", x.state(5), 0);
    }
}
