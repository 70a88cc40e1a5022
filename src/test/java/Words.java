/** Builds the words that the document tells. */
final class Words {
    static final int LDA = 1, STA = 2, ADA = 3, SBA = 4, MPA = 5, ANA = 6, ORA = 7, ERA = 8, LDQ = 9, STQ = 10;
    static final int AOS = 11, LDX = 12, STX = 16, TRA = 20, TZE = 21, TNZ = 22, TMI = 23, EPP = 24, SPR = 28;
    static final int EAA = 32, EXQ = 33, CALL = 34, RTN = 35, CLEAR = 36, RCU = 37, STOP = 38;
    static final int A = 0, Q = 1, X = 2, P = 6, COUNTER = 10;
    static final long THERE = 1L << 35, PAGED = 1L << 34, USED = 1L << 34, CHANGED = 1L << 33;
    static final long TOP = (1L << 36) - 1;
    static final int READ = 1 << 9, WRITE = 1 << 10, EXECUTE = 1 << 11, ALL = READ | WRITE | EXECUTE;

    private Words() {
    }

    static long first(int base, int bound) {
        return THERE | (long) bound << 12 | base;
    }

    static long second(int r1, int r2, int r3, int access, int gates) {
        return r1 | r2 << 3 | r3 << 6 | access | (long) gates << 12;
    }

    /** What, with y. */
    static long op(int what, int y) {
        return (long) what << 30 | y;
    }

    /** Likewise, with Pn. */
    static long op(int what, int n, int y) {
        return op(what, y) | 1L << 29 | (long) n << 27;
    }

    static long indexed(long instruction, int x) {
        return instruction | (long) x << 24;
    }

    static long indirect(long instruction) {
        return instruction | 1L << 26;
    }

    static long pointer(int segment, int word, int ring) {
        return kind(1, segment, word, ring);
    }

    static long kind(int kind, int segment, int word, int ring) {
        return (long) kind << 33 | (long) segment << 24 | (long) ring << 21 | word;
    }

    static long number(long pointerWord, int n) {
        return pointerWord | (long) n << 18;
    }

    static long goesOn(long pointerWord) {
        return pointerWord | 1L << 20;
    }
}
