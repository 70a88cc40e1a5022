/** Runs of calls of all kinds, each answer held against PlainModel's. The same runs each time. */
final class RandomRunsTest {
    private static final int RUNS = 1500;
    private static final int CALLS = 250;

    private long seed;
    private RingProcessor x;
    private PlainModel m;
    private final int[] faults = new int[12];

    public static void main(String[] args) {
        RandomRunsTest test = new RandomRunsTest();
        for (int run = 1; run <= RUNS; run++) {
            test.seed = 7919L * run;
            test.oneRun(run);
        }
        // The runs are of use only if they come by every fault and interrupt.
        for (int fault = 1; fault < 12; fault++) {
            Due.is("runs that came by fault " + fault, test.faults[fault] > 20 ? 1 : 0, 1);
        }
        Due.end();
    }

    private int below(int n) {
        seed = seed * 6364136223846793005L + 1442695040888963407L;
        return (int) ((seed >>> 33) % n);
    }

    private boolean oneIn(int n) {
        return below(n) == 0;
    }

    private void oneRun(int run) {
        x = new RingProcessor();
        m = new PlainModel();
        layOut();
        for (int call = 0; call < CALLS; call++) {
            String what = "random run " + run + ", call " + call;
            anyCall(what);
            same(what);
        }
        for (int address = 0; address < 4096; address++) {
            Due.is("random run " + run + ", peek(" + address + ")", x.peek(address), m.memory[address]);
        }
    }

    private void poke(int address, long v) {
        x.poke(address, v);
        m.memory[address] = v & Words.TOP;
    }

    private void set(int k, long v) {
        x.set(k, v);
        m.set(k, v);
    }

    private void layOut() {
        for (int s = 0; s < 16; s++) {
            anyDescriptor(s);
        }
        for (int address = 32; address < 4096; address++) {
            poke(address, address < 96 ? anyPage() : anyWord());
        }
        for (int k = 0; k <= 10; k++) {
            set(k, anyPointer());
        }
    }

    private void anyDescriptor(int s) {
        int r1 = below(3);
        int r2 = r1 + below(8 - r1);
        int r3 = oneIn(4) ? below(8) : r2 + below(8 - r2);
        int access = oneIn(3) ? below(8) * Words.READ : Words.ALL;
        boolean paged = oneIn(2);
        int base = paged && !oneIn(20) ? 32 + below(64) : below(4096);
        int bound = oneIn(3) ? below(4096) : 4095;
        long there = oneIn(8) ? 0 : Words.THERE;
        poke(2 * s, there | (paged ? Words.PAGED : 0) | (long) bound << 12 | base);
        poke(2 * s + 1, Words.second(s == 0 ? 0 : r1, r2, r3, access, below(4096)));
    }

    private long anyPage() {
        return (oneIn(8) ? 0 : Words.THERE) | (oneIn(6) ? Words.CHANGED : 0) | (oneIn(6) ? Words.USED : 0) | below(64);
    }

    private int anyWordNumber() {
        return oneIn(3) ? below(4096) : below(256);
    }

    private long anyPointer() {
        long pointer = Words.kind(oneIn(12) ? below(8) : below(3), below(oneIn(6) ? 16 : 6), anyWordNumber(), below(oneIn(4) ? 8 : 3));
        return Words.number(oneIn(2) ? Words.goesOn(pointer) : pointer, below(4));
    }

    private long anyWord() {
        if (oneIn(4)) {
            return oneIn(2) ? anyPointer() : (long) below(1 << 18) << 18 | below(1 << 18);
        }
        int what = below(oneIn(20) ? 64 : 39);
        long word = oneIn(3) ? Words.op(what, anyWordNumber()) : Words.op(what, below(4), anyWordNumber());
        word = oneIn(3) ? Words.indirect(word) : word;
        return oneIn(3) ? Words.indexed(word, below(4)) : word;
    }

    private void anyCall(String what) {
        switch (below(12)) {
            case 0 -> poke(96 + below(4000), anyWord());
            case 1 -> poke(32 + below(64), anyPage());
            case 2 -> anyDescriptor(below(16));
            case 3 -> set(below(10), oneIn(2) ? anyPointer() : below(3) - 1L);
            case 4 -> set(Words.COUNTER, anyPointer());
            case 5 -> {
                x.go();
                m.stopped = false;
                m.handles = false;
            }
            case 6 -> {
                int k = below(4);
                x.interrupt(k);
                m.asked |= 1 << k;
            }
            case 7 -> {
                int s = below(16);
                int w = anyWordNumber();
                int ring = below(8);
                int way = below(3);
                Due.is(what + ": reach", x.reach(s, w, ring, way), m.reach(s, w, ring, way));
            }
            default -> {
                int n = oneIn(10) ? below(101) : 1 + below(3);
                Due.is(what + ": run(" + n + ")", x.run(n), m.run(n));
                faults[m.fault]++;
            }
        }
    }

    private void same(String what) {
        for (int k = 0; k <= 10; k++) {
            Due.is(what + ": get(" + k + ")", x.get(k), m.registers[k]);
        }
        int[] state = {m.stopped ? 1 : 0, m.handles ? 1 : 0, m.fault, m.faultSegment, m.faultWord, m.asked};
        for (int k = 0; k < state.length; k++) {
            Due.is(what + ": state(" + k + ")", x.state(k), state[k]);
        }
        Due.is(what + ": saved()", x.saved(), m.saved);
        for (int k = 0; k < 4; k++) {
            Due.is(what + ": copy(" + k + ", 0)", x.copy(k, 0), PlainModel.copy(m.descriptors, k));
            Due.is(what + ": copy(" + k + ", 1)", x.copy(k, 1), PlainModel.copy(m.pageWords, k));
        }
    }
}
