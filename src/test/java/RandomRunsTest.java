/** Runs of calls of all kinds, each answer held against PlainModel's. The same runs each time. */
final class RandomRunsTest {
    private static final int RUNS = 8000;
    /** With what lays memory out, what is asked behind each, and what is asked at the end: 512 calls at most. */
    private static final int CALLS = 40;
    private static final int ASKED_BEHIND_EACH = 2;
    private static final int PEEKS_AT_THE_END = 50;
    /** Behind the descriptors: pages' words, then frames 1 to 3. All else is 0. */
    private static final int FIRST_PAGE_WORD = 32;
    private static final int FIRST_WORD = 64;
    private static final int END = 256;
    private static final int QUESTIONS = 26;

    private long seed;
    private RingProcessor x;
    private PlainModel m;
    private final int[] faults = new int[12];

    public static void main(String[] args) {
        RandomRunsTest test = new RandomRunsTest();
        for (int run = 1; run <= RUNS; run++) {
            test.seed = 7919L * run;
            test.oneRun(run);
        }
        // The runs are of use only if they come by every fault and interrupt.
        for (int fault = 1; fault < 12; fault++) {
            Due.is("runs that came by fault " + fault, test.faults[fault] > 500 ? 1 : 0, 1);
        }
        Due.end();
    }

    private int below(int n) {
        seed = seed * 6364136223846793005L + 1442695040888963407L;
        return (int) ((seed >>> 33) % n);
    }

    private boolean oneIn(int n) {
        return below(n) == 0;
    }

    private void oneRun(int run) {
        x = new RingProcessor();
        m = new PlainModel();
        layOut();
        for (int call = 0; call < CALLS; call++) {
            String what = "random run " + run + ", call " + call;
            anyCall(what);
            for (int k = 0; k < ASKED_BEHIND_EACH; k++) {
                same(what, below(QUESTIONS));
            }
        }
        for (int question = 0; question < QUESTIONS; question++) {
            same("random run " + run, question);
        }
        for (int k = 0; k < PEEKS_AT_THE_END; k++) {
            int address = oneIn(10) ? below(4096) : below(END);
            Due.is("random run " + run + ", peek(" + address + ")", x.peek(address), m.memory[address]);
        }
    }

    private void poke(int address, long v) {
        x.poke(address, v);
        m.memory[address] = v & Words.TOP;
    }

    private void set(int k, long v) {
        x.set(k, v);
        m.set(k, v);
    }

    private void go() {
        x.go();
        m.stopped = false;
        m.handles = false;
    }

    private void layOut() {
        for (int s = 0; s < 16; s++) {
            anyDescriptor(s);
        }
        for (int address = FIRST_PAGE_WORD; address < END; address++) {
            poke(address, address < FIRST_WORD ? anyPage() : anyWord());
        }
        for (int k = 0; k <= 10; k++) {
            set(k, anyPointer());
        }
    }

    private void anyDescriptor(int s) {
        int r1 = below(3);
        int r2 = r1 + below(8 - r1);
        int r3 = oneIn(4) ? below(8) : r2 + below(8 - r2);
        int access = oneIn(5) ? below(8) * Words.READ : Words.ALL;
        boolean paged = oneIn(2);
        int base = oneIn(20) ? below(4096) : paged ? FIRST_PAGE_WORD + below(24) : FIRST_WORD + below(100);
        int bound = oneIn(4) ? below(oneIn(2) ? 256 : 4096) : 4095;
        long there = oneIn(8) ? 0 : Words.THERE;
        poke(2 * s, there | (paged ? Words.PAGED : 0) | (long) bound << 12 | base);
        poke(2 * s + 1, Words.second(s == 0 ? 0 : r1, r2, r3, access, below(oneIn(2) ? 256 : 4096)));
    }

    private long anyPage() {
        int frame = oneIn(10) ? below(64) : 1 + below(3);
        return (oneIn(8) ? 0 : Words.THERE) | (oneIn(6) ? Words.CHANGED : 0) | (oneIn(6) ? Words.USED : 0) | frame;
    }

    private int anyWordNumber() {
        return oneIn(6) ? below(4096) : below(160);
    }

    private long anyPointer() {
        long pointer = Words.kind(oneIn(12) ? below(8) : below(3), below(oneIn(6) ? 16 : 6), anyWordNumber(), below(oneIn(4) ? 8 : 3));
        return Words.number(oneIn(2) ? Words.goesOn(pointer) : pointer, below(4));
    }

    private long anyWord() {
        if (oneIn(4)) {
            return oneIn(2) ? anyPointer() : (long) below(1 << 18) << 18 | below(1 << 18);
        }
        int what = below(oneIn(20) ? 64 : 39);
        long word = oneIn(3) ? Words.op(what, anyWordNumber()) : Words.op(what, below(4), anyWordNumber());
        word = oneIn(3) ? Words.indirect(word) : word;
        return oneIn(3) ? Words.indexed(word, below(4)) : word;
    }

    private void anyCall(String what) {
        switch (below(12)) {
            case 0 -> poke(FIRST_WORD + below(END - FIRST_WORD), anyWord());
            case 1 -> poke(FIRST_PAGE_WORD + below(32), anyPage());
            case 2 -> poke(below(32), m.memory[below(32)]);
            case 3 -> set(below(10), oneIn(2) ? anyPointer() : below(3) - 1L);
            case 4 -> set(Words.COUNTER, anyPointer());
            case 5 -> go();
            case 6 -> {
                int k = below(4);
                x.interrupt(k);
                m.asked |= 1 << k;
            }
            case 7 -> {
                int s = below(16);
                int w = anyWordNumber();
                int ring = below(8);
                int way = below(3);
                Due.is(what + ": reach", x.reach(s, w, ring, way), m.reach(s, w, ring, way));
            }
            default -> {
                if (m.stopped && oneIn(2)) {
                    go();
                }
                int n = oneIn(10) ? below(101) : 1 + below(3);
                Due.is(what + ": run(" + n + ")", x.run(n), m.run(n));
                faults[m.fault]++;
            }
        }
    }

    /** Registers are questions 0 .. 10, then come states, saved(), and copies. */
    private void same(String what, int question) {
        if (question <= 10) {
            Due.is(what + ": get(" + question + ")", x.get(question), m.registers[question]);
        } else if (question <= 16) {
            int[] state = {m.stopped ? 1 : 0, m.handles ? 1 : 0, m.fault, m.faultSegment, m.faultWord, m.asked};
            Due.is(what + ": state(" + (question - 11) + ")", x.state(question - 11), state[question - 11]);
        } else if (question == 17) {
            Due.is(what + ": saved()", x.saved(), m.saved);
        } else if (question <= 21) {
            Due.is(what + ": copy(" + (question - 18) + ", 0)", x.copy(question - 18, 0), PlainModel.copy(m.descriptors, question - 18));
        } else {
            Due.is(what + ": copy(" + (question - 22) + ", 1)", x.copy(question - 22, 1), PlainModel.copy(m.pageWords, question - 22));
        }
    }
}
