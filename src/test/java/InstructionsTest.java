/** Promise 6: what each instruction does, but for CALL, RTN and those of ring 0. */
final class InstructionsTest {
    private static final long BIG = 1L << 35;

    public static void main(String[] args) {
        arithmetic();
        loadsAndStores();
        addOne();
        indexes();
        transfers();
        pointers();
        others();
        Due.end();
    }

    private static void arithmetic() {
        onA(Words.LDA, 5, 9, 9);
        onA(Words.LDA, 5, Words.TOP, Words.TOP);
        onA(Words.ADA, 5, 9, 14);
        onA(Words.ADA, Words.TOP, 1, 0);
        onA(Words.ADA, Words.TOP, Words.TOP, Words.TOP - 1);
        onA(Words.SBA, 9, 5, 4);
        onA(Words.SBA, 5, 9, Words.TOP - 3);
        onA(Words.SBA, 0, 1, Words.TOP);
        onA(Words.MPA, 7, 6, 42);
        onA(Words.MPA, BIG, 2, 0);
        onA(Words.MPA, Words.TOP, Words.TOP, 1);
        onA(Words.MPA, 0x123456789L, 0xABCDEF123L, (0x123456789L * 0xABCDEF123L) & Words.TOP);
        onA(Words.ANA, 12, 10, 8);
        onA(Words.ORA, 12, 10, 14);
        onA(Words.ERA, 12, 10, 6);
        onA(Words.ERA, Words.TOP, 1, Words.TOP - 1);
    }

    private static void onA(int what, long a, long word, long want) {
        Bench b = new Bench().code(Words.op(what, 2, 3)).data(0, 0, 0, word);
        b.x.set(Words.A, a);
        b.x.set(Words.Q, 77);
        String call = "instruction " + what + " on " + a + " with " + word;
        b.run(1).register(call, Words.A, want).register(call, Words.Q, 77).counter(call, 1, 1, 0);
        b.word(call, Bench.DATA + 3, word).noFault(call);
    }

    private static void loadsAndStores() {
        Bench b = new Bench().code(Words.op(Words.STA, 2, 1), Words.op(Words.STQ, 2, 2), Words.op(Words.LDQ, 2, 0));
        b.data(44);
        b.x.set(Words.A, Words.TOP);
        b.x.set(Words.Q, 6);
        b.run(1).word("STA", Bench.DATA + 1, Words.TOP).register("STA", Words.A, Words.TOP).counter("STA", 1, 1, 0);
        b.run(1).word("STQ", Bench.DATA + 2, 6).register("STQ", Words.Q, 6).counter("STQ", 1, 2, 0);
        b.run(1).register("LDQ", Words.Q, 44).register("LDQ", Words.A, Words.TOP).counter("LDQ", 1, 3, 0);
        // The first and the last word of memory.
        for (int address : new int[] {0, 4095}) {
            Bench end = new Bench().code(Words.op(Words.LDA, 1, 0), Words.op(Words.AOS, 1, 0)).pointTo(1, 6, 0, 0);
            end.segment(6, Words.first(address, 0), Words.second(7, 7, 7, Words.ALL, 0));
            long word = end.x.peek(address);
            end.run(1).register("LDA of " + address, Words.A, word);
            end.run(1).word("AOS of " + address, address, word + 1).counter("AOS", 1, 2, 0);
        }
    }

    private static void addOne() {
        Bench b = new Bench().code(Words.op(Words.AOS, 2, 0), Words.op(Words.AOS, 2, 1)).data(41, Words.TOP);
        b.x.set(Words.A, 3);
        b.run(1).word("AOS", Bench.DATA, 42).register("AOS", Words.A, 3).counter("AOS", 1, 1, 0);
        b.run(1).word("AOS of the highest", Bench.DATA + 1, 0).counter("AOS", 1, 2, 0);
        // It must be read as well as written.
        Bench noRead = new Bench().code(Words.op(Words.AOS, 2, 0)).data(41);
        noRead.segment(2, Words.first(Bench.DATA, 255), Words.second(4, 5, 5, Words.WRITE, 0));
        noRead.run(1).fault("AOS not READ", 4, 2, 0).word("AOS not READ", Bench.DATA, 41);
        Bench noWrite = new Bench().code(Words.op(Words.AOS, 2, 7));
        noWrite.segment(2, Words.first(Bench.DATA, 255), Words.second(4, 5, 5, Words.READ, 0));
        noWrite.run(1).fault("AOS not WRITTEN", 4, 2, 7).word("AOS not WRITTEN", Bench.DATA + 7, 0);
    }

    private static void indexes() {
        for (int k = 0; k < 4; k++) {
            Bench b = new Bench().code(Words.op(Words.LDX + k, 2, 0), Words.op(Words.STX + k, 2, 1));
            b.data((5L << 30) + 4096 * 3 + 3210, Words.TOP);
            b.x.set(Words.A, 8);
            b.run(1).counter("LDX", 1, 1, 0).register("LDX", Words.A, 8);
            for (int j = 0; j < 4; j++) {
                b.register("LDX " + k, Words.X + j, j == k ? 3210 : 0);
            }
            b.run(1).word("STX " + k, Bench.DATA + 1, 3210).counter("STX", 1, 2, 0);
        }
    }

    private static void transfers() {
        for (long a : new long[] {0, 1, BIG, BIG - 1, Words.TOP}) {
            jump(Words.TRA, a, true);
            jump(Words.TZE, a, a == 0);
            jump(Words.TNZ, a, a != 0);
            jump(Words.TMI, a, a >= BIG);
        }
        // The address is not reached, so it may be where nothing is.
        Bench far = new Bench().code(Words.op(Words.TRA, 0, 4000)).pointTo(0, 14, 5, 0);
        far.run(1).counter("TRA to a segment that is not there", 14, 4005, 0).noFault("TRA");
        for (int what = Words.TRA; what <= Words.TMI; what++) {
            onlyInTheRing(what);
        }
    }

    private static void jump(int what, long a, boolean taken) {
        Bench b = new Bench().code(Words.op(what, 100));
        b.x.set(Words.A, a);
        b.at(1, 0, 2).run(1);
        b.counter("transfer " + what + " with A " + a, 1, taken ? 100 : 1, 2).register("transfer", Words.A, a);
    }

    /** FAULT 5 only if it goes there; else the address alone is found, with the faults of its words. */
    private static void onlyInTheRing(int what) {
        long taken = what == Words.TMI ? BIG : what == Words.TNZ ? 1 : 0;
        Bench b = new Bench().code(0, Words.op(what, 2, 9)).pointTo(2, 1, 0, 3).at(1, 1, 2);
        b.x.set(Words.A, taken);
        b.run(1).fault("transfer " + what + " from ring 2 in 3", 5, 1, 1);
        Due.is("saved", b.x.saved(), Words.pointer(1, 1, 2));
        if (what == Words.TRA) {
            return;
        }
        long other = what == Words.TZE ? 1 : 0;
        Bench c = new Bench().code(0, Words.op(what, 2, 9)).pointTo(2, 1, 0, 3).at(1, 1, 2);
        c.x.set(Words.A, other);
        c.run(1).counter("no transfer " + what, 1, 2, 2).noFault("no transfer");
        Bench d = new Bench().code(0, Words.indirect(Words.op(what, 2, 300))).at(1, 1, 2);
        d.x.set(Words.A, other);
        d.run(1).fault("no transfer " + what + ", no indirect word", 3, 2, 300);
    }

    private static void pointers() {
        for (int k = 0; k < 4; k++) {
            Bench b = new Bench().code(Words.op(Words.EPP + k, 1, 9), Words.op(Words.SPR + k, 2, 30), Words.op(Words.EPP + k, 8));
            b.pointTo(1, 13, 4090, 3).at(1, 0, 1);
            b.run(1).register("EPP " + k, Words.P + k, Words.pointer(13, 3, 3)).counter("EPP", 1, 1, 1);
            for (int j = 2; j < 4; j++) {
                if (j != k) {
                    b.register("EPP " + k, Words.P + j, Words.pointer(j, 0, 0));
                }
            }
            b.pointTo(2, 2, 0, 3);
            long want = b.x.get(Words.P + k);
            b.run(1).word("SPR " + k, Bench.DATA + 30, want).register("SPR", Words.P + k, want).counter("SPR", 1, 2, 1);
            b.run(1).register("EPP of its own", Words.P + k, Words.pointer(1, 8, 1));
        }
    }

    private static void others() {
        Bench b = new Bench().code(Words.op(Words.EAA, 2, 9), Words.op(Words.EXQ, 0), 0, Words.TOP >> 6);
        b.pointTo(2, 14, 4095, 6);
        b.x.set(Words.Q, 5);
        b.run(1).register("EAA", Words.A, 8).counter("EAA", 1, 1, 0);
        b.run(1).register("EXQ", Words.A, 5).register("EXQ", Words.Q, 8).counter("EXQ", 1, 2, 0);
        // Of 0 no address is found, whatever its other bits say.
        b.run(1).counter("nothing", 1, 3, 0).run(1).counter("nothing", 1, 4, 0).noFault("nothing");
        Bench plain = new Bench().code(Words.indirect(Words.op(Words.EXQ, 0, 3)), Words.indirect(Words.op(Words.STOP, 0, 3)));
        plain.pointTo(0, 14, 0, 0).run(2).noFault("EXQ and STOP find no address").counter("STOP", 1, 2, 0);
        for (int what = 39; what < 64; what++) {
            Bench none = new Bench().code(0, Words.indirect(Words.op(what, 0, 3))).pointTo(0, 14, 0, 0);
            none.at(1, 1, 3).run(1).fault("instruction " + what, 6, 1, 1);
            none.copies("no address of " + what, 0, 1);
        }
        Bench wrap = new Bench().segment(1, Words.first(Bench.CODE, 4095), Words.second(0, 4, 6, Words.ALL, 3));
        wrap.at(1, 4095, 0).run(1).counter("the word behind the last", 1, 0, 0);
    }
}
