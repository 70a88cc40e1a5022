/** "Exceptions": the last arguments that are let through and the first that are not; a refused call changes nothing. */
final class RefusedCallsTest {
    private static final int[][] PLACES = {{0, 32}, {64 + 22, 2}, {Bench.PAGES, 4}, {Bench.CODE, 2}, {Bench.DATA, 2}, {4095, 1}};

    public static void main(String[] args) {
        addresses();
        registers();
        runs();
        interrupts();
        segments();
        words();
        rings();
        ways();
        segmentAheadOfTheOthers();
        statesOfNone();
        Due.end();
    }

    private interface Call {
        void on(RingProcessor x);
    }

    /** One with copies, a fault, an interrupt, and all registers of their own values. */
    private static Bench busy() {
        Bench b = new Bench().code(Words.op(Words.LDA, 3, 64), Words.op(50, 0)).run(2);
        for (int k = 0; k < 10; k++) {
            b.x.set(k, Words.pointer(k, 70 + k, k % 8));
        }
        b.x.interrupt(2);
        b.x.poke(4095, 99);
        return b;
    }

    private static void refused(String what, int thrown, Call call) {
        Bench b = busy();
        Snapshot before = new Snapshot(b.x, PLACES);
        Due.is(what + " (throws)", Due.thrownBy(() -> call.on(b.x)), thrown);
        before.stays(what);
        // Nor did it leave anything for what comes then.
        b.run(2).told(what, 6, 1, 1).counter(what, 0, 24, 0);
    }

    private static void outOfBounds(String what, Call call) {
        refused(what, 1, call);
    }

    private static void illegal(String what, Call call) {
        refused(what, 2, call);
    }

    private static void letThrough(String what, Call call) {
        Bench b = busy();
        Due.is(what + " (throws)", Due.thrownBy(() -> call.on(b.x)), 0);
    }

    /** "no such address". */
    private static void addresses() {
        for (int address : new int[] {0, 4095}) {
            letThrough("peek(" + address + ")", x -> x.peek(address));
            letThrough("poke(" + address + ")", x -> x.poke(address, 1));
        }
        for (int address : new int[] {Integer.MIN_VALUE, -4096, -1, 4096, 8192, Integer.MAX_VALUE}) {
            outOfBounds("peek(" + address + ")", x -> x.peek(address));
            outOfBounds("poke(" + address + ")", x -> x.poke(address, 1));
        }
    }

    /** "no such ... register". */
    private static void registers() {
        for (int k = 0; k <= 10; k++) {
            int register = k;
            letThrough("get(" + k + ")", x -> x.get(register));
            letThrough("set(" + k + ")", x -> x.set(register, 1));
        }
        for (int k : new int[] {Integer.MIN_VALUE, -1, 11, 12, Integer.MAX_VALUE}) {
            outOfBounds("get(" + k + ")", x -> x.get(k));
            outOfBounds("set(" + k + ")", x -> x.set(k, 1));
        }
    }

    /** "n is not 0 .. 100". */
    private static void runs() {
        for (int n : new int[] {0, 100}) {
            letThrough("run(" + n + ")", x -> x.run(n));
        }
        for (int n : new int[] {Integer.MIN_VALUE, -1, 101, Integer.MAX_VALUE}) {
            illegal("run(" + n + ")", x -> x.run(n));
        }
    }

    /** "no such ... interrupt". */
    private static void interrupts() {
        for (int k = 0; k <= 3; k++) {
            int number = k;
            letThrough("interrupt(" + k + ")", x -> x.interrupt(number));
        }
        for (int k : new int[] {Integer.MIN_VALUE, -1, 4, 32, Integer.MAX_VALUE}) {
            outOfBounds("interrupt(" + k + ")", x -> x.interrupt(k));
        }
    }

    /** "no such ... segment". */
    private static void segments() {
        for (int segment : new int[] {0, 15}) {
            letThrough("segment " + segment, x -> x.reach(segment, 0, 0, 0));
        }
        for (int segment : new int[] {Integer.MIN_VALUE, -1, 16, Integer.MAX_VALUE}) {
            outOfBounds("segment " + segment, x -> x.reach(segment, 0, 0, 0));
        }
    }

    /** "word not 0 .. 4095". */
    private static void words() {
        for (int word : new int[] {0, 4095}) {
            letThrough("word " + word, x -> x.reach(3, word, 0, 0));
        }
        for (int word : new int[] {Integer.MIN_VALUE, -1, 4096, Integer.MAX_VALUE}) {
            illegal("word " + word, x -> x.reach(3, word, 0, 0));
        }
    }

    /** "ring is not 0 .. 7". */
    private static void rings() {
        for (int ring : new int[] {0, 7}) {
            letThrough("ring " + ring, x -> x.reach(3, 0, ring, 0));
        }
        for (int ring : new int[] {Integer.MIN_VALUE, -1, 8, Integer.MAX_VALUE}) {
            illegal("ring " + ring, x -> x.reach(3, 0, ring, 0));
        }
    }

    /** "way not 0 .. 2". */
    private static void ways() {
        for (int way : new int[] {0, 2}) {
            letThrough("way " + way, x -> x.reach(3, 0, 0, way));
        }
        for (int way : new int[] {Integer.MIN_VALUE, -1, 3, Integer.MAX_VALUE}) {
            illegal("way " + way, x -> x.reach(3, 0, 0, way));
        }
    }

    /** The document does not say which of two comes first: it is in the order that the face names them. */
    private static void segmentAheadOfTheOthers() {
        outOfBounds("segment and word", x -> x.reach(16, 4096, 0, 0));
        outOfBounds("segment and ring", x -> x.reach(-1, 0, 8, 0));
        outOfBounds("segment and way", x -> x.reach(16, 0, 0, 3));
        // A wrong argument comes ahead of a fault.
        illegal("way of no segment", x -> x.reach(14, 0, 0, 3));
    }

    /** "NONE for another what": no exception. */
    private static void statesOfNone() {
        for (int what : new int[] {Integer.MIN_VALUE, -1, 6, 7, Integer.MAX_VALUE}) {
            Due.is("state(" + what + ")", busy().x.state(what), -1);
        }
        int[] told = {0, 1, 6, 1, 1, 4};
        for (int what = 0; what < told.length; what++) {
            Due.is("state(" + what + ")", busy().x.state(what), told[what]);
        }
    }
}
