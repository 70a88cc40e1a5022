/** Each FAULT of each instruction, and a fault while it HANDLES (promises 6, 7, 9, 10). */
final class EdgesOfFaultsTest {
    private static final int RING = 2;
    /** Where the instruction stands in segment 1, and what its address is in segment 6. */
    private static final int AT = 5, WORD = 70;
    private static final int[][] PLACES = {{0, 32}, {Bench.PAGES, 4}, {Bench.CODE + AT, 2}, {Bench.DATA, 4}, {Bench.FRAMES + WORD, 1}};

    public static void main(String[] args) {
        ofFetching();
        ofReading();
        ofWriting();
        ofOneMore();
        ofIndirectWords();
        ofTransfers();
        ofCalls();
        ofReturns();
        ofRing0();
        ofOthers();
        entries();
        toldWithout();
        Due.end();
    }

    /**
     * An instruction at word 5 of segment 1, in ring 2, whose fault is told: once when it does not HANDLE, and once
     * when it does.
     */
    private interface Maker {
        Bench make();
    }

    private static void faults(String what, Maker maker, int fault, int segment, int word) {
        Bench b = ready(maker.make());
        long counter = b.x.get(Words.COUNTER);
        Snapshot before = new Snapshot(b.x, PLACES);
        b.run(1).fault(what, fault, segment, word);
        Due.is(what + ": saved", b.x.saved(), counter);
        Due.is(what + ": it goes on", b.x.state(0), 0);
        before.stays(what, "get(10)", "state(1)", "state(2)", "state(3)", "state(4)", "saved", "copy", "peek(128)", "peek(129)");
        usedAlone(what, b);
        stops(what, maker, fault, segment, word);
    }

    /** "If it HANDLES already, it STOPS, at that instruction, nothing is SAVED." */
    private static void stops(String what, Maker maker, int fault, int segment, int word) {
        Bench b = ready(maker.make());
        long counter = b.x.get(Words.COUNTER);
        // Another counter was SAVED then, which is to stay.
        b.at(9, 9, 7).x.interrupt(3);
        b.run(1).fault(what, 11, 9, 9).x.set(Words.COUNTER, counter);
        Snapshot before = new Snapshot(b.x, PLACES);
        Due.is(what + ": run(100) when it HANDLES", b.x.run(100), 1);
        Due.is(what + ": it is STOPPED", b.x.state(0), 1);
        b.told(what + " when it HANDLES", fault, segment, word);
        before.stays(what + " when it HANDLES", "state(0)", "state(2)", "state(3)", "state(4)", "copy", "peek(128)", "peek(129)");
        usedAlone(what, b);
        Due.is(what + ": no more", b.x.run(100), 0);
        b.x.go();
        Due.is(what + ": go(), STOPPED", b.x.state(0), 0);
        Due.is(what + ": go(), HANDLES", b.x.state(1), 0);
        b.run(1).fault(what + " behind go()", fault, segment, word);
        Due.is(what + ": saved behind go()", b.x.saved(), counter);
    }

    private static Bench ready(Bench b) {
        b.x.set(Words.A, Words.TOP - 4);
        b.x.set(Words.Q, 12);
        for (int k = 0; k < 4; k++) {
            b.x.set(Words.X + k, 30 + k);
        }
        return b;
    }

    /** "all is as before the instruction, but copies, and what is USED". */
    private static void usedAlone(String what, Bench b) {
        for (int page = 0; page < 2; page++) {
            long word = b.x.peek(Bench.PAGES + page);
            Due.is(what + ": page " + page, word & ~Words.USED & ~Words.THERE, 20 + page);
        }
    }

    private static Bench bench(long instruction) {
        Bench b = new Bench().words(Bench.CODE + AT, instruction).at(1, AT, RING);
        b.data(11, 22, 33, 44).x.poke(Bench.FRAMES + WORD, 55);
        return b.pointTo(1, 6, 0, 0);
    }

    /** Segment 6, paged as segment 3 is, which has a fault in one way. */
    private static Bench lame(long instruction, int fault, int way) {
        int access = fault == 4 ? Words.ALL ^ 1 << 9 + way : Words.ALL;
        long first = Words.PAGED | Words.first(Bench.PAGES, fault == 3 ? WORD - 1 : WORD);
        Bench b = bench(instruction).segment(6, fault == 1 ? first ^ Words.THERE : first, Words.second(2, 2, 2, access, 0));
        b.x.poke(Bench.PAGES + 1, fault == 2 ? 21 : Words.THERE | 21);
        return b;
    }

    private static boolean isReading(int what) {
        return what == 1 || what >= 3 && what <= 9 || what >= 11 && what <= 15 || what == 35;
    }

    private static boolean isWriting(int what) {
        return what == 2 || what == 10 || what >= 16 && what <= 19 || what >= 28 && what <= 31;
    }

    private static void ofFetching() {
        for (int fault = 1; fault <= 4; fault++) {
            int number = fault;
            faults("fetching, fault " + fault, () -> lame(0, number, 2).at(6, WORD, RING), fault, 6, WORD);
        }
        for (int ring : new int[] {1, 3}) {
            faults("fetching in ring " + ring, () -> lame(0, 0, 2).at(6, WORD, ring), 4, 6, WORD);
        }
    }

    private static void ofReading() {
        for (int what = 1; what < 36; what++) {
            for (int fault = 1; fault <= 4 && isReading(what); fault++) {
                int number = fault;
                long instruction = Words.op(what, 1, WORD);
                faults("instruction " + what + ", fault " + fault, () -> lame(instruction, number, 0), fault, 6, WORD);
            }
            if (isReading(what)) {
                long instruction = Words.op(what, 1, WORD);
                faults("instruction " + what + " in ring 3", () -> lame(instruction, 0, 0).pointTo(1, 6, 0, 3), 4, 6, WORD);
            }
        }
    }

    private static void ofWriting() {
        for (int what = 1; what < 36; what++) {
            for (int fault = 1; fault <= 4 && isWriting(what); fault++) {
                int number = fault;
                long instruction = Words.op(what, 1, WORD);
                faults("instruction " + what + ", fault " + fault, () -> lame(instruction, number, 1), fault, 6, WORD);
            }
            if (isWriting(what)) {
                long instruction = Words.op(what, 1, WORD);
                faults("instruction " + what + " in ring 3", () -> lame(instruction, 0, 1).pointTo(1, 6, 0, 3), 4, 6, WORD);
            }
        }
    }

    /** "(it is reached to read, then to write)": what may be read alone is USED then, and not CHANGED. */
    private static void ofOneMore() {
        long instruction = Words.op(Words.AOS, 1, WORD);
        faults("AOS of what may not be written", () -> lame(instruction, 4, 1), 4, 6, WORD);
        Bench b = lame(instruction, 4, 1).run(1).word("USED", Bench.PAGES + 1, Words.THERE | Words.USED | 21);
        b.copies("the page", 1, 64 * 6 + 1).word("the word", Bench.FRAMES + WORD, 55);
        Bench c = lame(instruction, 4, 0).run(1).word("not even USED", Bench.PAGES + 1, Words.THERE | 21);
        c.copies("no page", 1);
        // Read in ring 2 .. 4, written in ring 2.
        for (int ring = 2; ring <= 5; ring++) {
            Bench d = lame(instruction, 0, 0).segment(6, Words.first(Bench.DATA, WORD), Words.second(2, 4, 4, Words.ALL, 0));
            d.pointTo(1, 6, 0, ring).x.poke(Bench.DATA + WORD, 8);
            d.run(1).word("AOS in ring " + ring, Bench.DATA + WORD, ring == 2 ? 9 : 8);
            Due.is("AOS in ring " + ring, d.x.state(2), ring == 2 ? 0 : 4);
        }
    }

    private static void ofIndirectWords() {
        for (int what = 1; what < 36; what++) {
            if (what == Words.EXQ) {
                continue;
            }
            long instruction = Words.indirect(Words.op(what, 1, WORD));
            for (int fault = 1; fault <= 4; fault++) {
                int number = fault;
                faults("indirect " + what + ", fault " + fault, () -> lame(instruction, number, 0), fault, 6, WORD);
            }
            faults("indirect " + what + " of no kind", () -> {
                Bench b = lame(instruction, 0, 0);
                b.x.poke(Bench.FRAMES + WORD, Words.kind(3, 6, WORD, 0));
                return b;
            }, 6, 1, AT);
            faults("indirect " + what + " without an end", () -> {
                Bench b = lame(instruction, 0, 0);
                b.x.poke(Bench.FRAMES + WORD, Words.goesOn(Words.kind(0, 0, WORD, 0)));
                return b;
            }, 6, 1, AT);
        }
    }

    private static void ofTransfers() {
        faults("TRA", () -> bench(Words.op(Words.TRA, 1, 0)).pointTo(1, 1, 0, 3), 5, 1, AT);
        // A is such that TNZ and TMI are taken.
        faults("TNZ", () -> bench(Words.op(Words.TNZ, 1, 0)).pointTo(1, 1, 0, 3), 5, 1, AT);
        faults("TMI", () -> bench(Words.op(Words.TMI, 1, 0)).pointTo(1, 1, 0, 3), 5, 1, AT);
        Bench b = ready(bench(Words.op(Words.TZE, 1, 0)).pointTo(1, 1, 0, 3));
        b.run(1).noFault("TZE").counter("TZE", 1, AT + 1, RING).at(1, AT, RING).x.set(Words.A, 0);
        b.run(1).fault("TZE", 5, 1, AT);
    }

    private static void ofCalls() {
        long instruction = Words.op(Words.CALL, 1, WORD);
        faults("CALL of no segment", () -> lame(instruction, 1, 2), 1, 6, WORD);
        faults("CALL of what may not be EXECUTED", () -> lame(instruction, 4, 2), 4, 6, WORD);
        faults("CALL above R3", () -> lame(instruction, 0, 2).pointTo(1, 6, 0, 3), 5, 1, AT);
        faults("CALL below R1", () -> lame(instruction, 0, 2).segment(6, Words.first(0, 0), Words.second(3, 7, 7, Words.ALL, 99)), 5, 1, AT);
        faults("CALL of no gate", () -> lame(instruction, 0, 2).segment(6, Words.first(0, 0), Words.second(0, 1, 7, Words.ALL, WORD)), 5, 1, AT);
    }

    private static void ofReturns() {
        for (int kind = 0; kind < 8; kind++) {
            int number = kind;
            if (kind != 1) {
                faults("RTN by kind " + kind, () -> {
                    Bench b = lame(Words.op(Words.RTN, 1, WORD), 0, 0);
                    b.x.poke(Bench.FRAMES + WORD, Words.kind(number, 1, 9, 0));
                    return b;
                }, 6, 1, AT);
            }
        }
    }

    private static void ofRing0() {
        for (int what = Words.CLEAR; what <= Words.STOP; what++) {
            for (int ring = 1; ring <= 4; ring++) {
                int number = ring;
                long instruction = Words.op(what, 0);
                faults("instruction " + what + " in ring " + ring, () -> bench(instruction).at(1, AT, number), 7, 1, AT);
            }
        }
        // When it HANDLES, RCU in ring 0 is none.
        Bench b = bench(Words.op(Words.RCU, 0)).at(1, AT, 0).run(1).fault("RCU", 6, 1, AT);
        Due.is("RCU: saved", b.x.saved(), Words.pointer(1, AT, 0));
    }

    private static void ofOthers() {
        for (int what = 39; what < 64; what++) {
            long instruction = Words.op(what, 1, WORD);
            faults("instruction " + what, () -> bench(instruction), 6, 1, AT);
        }
    }

    /** "the RING is 0, the counter word 16 + the fault of segment 0", which must be reached as any other. */
    private static void entries() {
        Bench b = bench(Words.op(63, 0)).segment(0, 0, 0).run(1).fault("no segment 0", 6, 1, AT);
        Due.is("then", b.x.run(100), 1);
        b.told("it stops", 1, 0, 22).counter("it stops", 0, 22, 0);
        Bench c = bench(Words.op(63, 0)).segment(0, Words.first(64, 21), Words.second(0, 0, 0, Words.ALL, 0)).run(1);
        c.fault("the entry is above BOUND", 6, 1, AT).run(1).told("it stops", 3, 0, 22);
        Bench d = bench(Words.op(63, 0)).segment(0, Words.first(64, 22), Words.second(0, 0, 0, Words.ALL, 0)).run(2);
        d.counter("the entry is at BOUND", 0, 23, 0).told("it goes on", 6, 1, AT);
        Bench e = bench(Words.op(63, 0)).segment(0, Words.first(64, 127), Words.second(1, 7, 7, Words.ALL, 0)).run(2);
        e.told("R1 above ring 0", 4, 0, 22);
        Due.is("saved", e.x.saved(), Words.pointer(1, AT, RING));
    }

    /** "0 without", "0 if it never was". */
    private static void toldWithout() {
        Bench b = bench(0).run(1).told("without", 0, 0, 0);
        Due.is("never saved", b.x.saved(), 0);
        // STOP is no fault; the counter of the first fault may be the word 0 of segment 0, and is no 0 then.
        Bench c = bench(Words.op(Words.STOP, 0)).at(1, AT, 0).run(1).told("STOP", 0, 0, 0);
        Due.is("never saved", c.x.saved(), 0);
        RingProcessor x = new RingProcessor();
        x.run(1);
        Due.is("saved at the very first", x.saved(), 1L << 33);
    }
}
