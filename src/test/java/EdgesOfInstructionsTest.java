/** The edges of instructions: conditions, brackets and gates of CALL, rings of RTN, ring 0, numbers (promise 6). */
final class EdgesOfInstructionsTest {
    private static final long BIT_35 = 1L << 35;

    public static void main(String[] args) {
        conditions();
        transfersOnlyInTheRing();
        addressesAreNotReached();
        firstAndLastOfFour();
        exchanges();
        callsByBrackets();
        callsByGates();
        callsLookForTheDescriptorAlone();
        returnsInTheGreatestRing();
        returnsByKind1();
        onlyInRing0();
        returnsFromFaults();
        numbersOfInstructions();
        Due.end();
    }

    private static Bench inRing(int ring, long instruction) {
        Bench b = new Bench().segment(1, Words.first(Bench.CODE, 255), Words.second(0, 7, 7, Words.ALL, 0));
        return b.code(0, instruction).at(1, 1, ring);
    }

    /** "if A is 0, is not 0, has bit 35". */
    private static void conditions() {
        for (long a : new long[] {0, 1, BIT_35 - 1, BIT_35, BIT_35 + 1, Words.TOP - 1, Words.TOP}) {
            condition(Words.TRA, a, true);
            condition(Words.TZE, a, a == 0);
            condition(Words.TNZ, a, a > 0);
            condition(Words.TMI, a, a >= BIT_35);
        }
        for (int bit = 0; bit < 36; bit++) {
            condition(Words.TZE, 1L << bit, false);
            condition(Words.TNZ, 1L << bit, true);
            condition(Words.TMI, 1L << bit, bit == 35);
        }
    }

    private static void condition(int what, long a, boolean isTaken) {
        Bench b = inRing(5, Words.op(what, 0, 3)).pointTo(0, 9, 4, 5);
        b.x.set(Words.A, a);
        b.x.set(Words.Q, ~a);
        String call = "instruction " + what + " with A " + a;
        b.run(1).noFault(call).counter(call, isTaken ? 9 : 1, isTaken ? 7 : 2, 5).register(call, Words.A, a);
    }

    /** "FAULT 5 if the effective ring is not the RING", of one that is taken. */
    private static void transfersOnlyInTheRing() {
        for (int what = Words.TRA; what <= Words.TMI; what++) {
            for (int ring = 0; ring < 8; ring++) {
                for (int of = 0; of < 8; of++) {
                    Bench b = inRing(ring, Words.op(what, 0, 3)).pointTo(0, 1, 4, of);
                    b.x.set(Words.A, what == Words.TMI ? BIT_35 : what - Words.TZE);
                    String call = "instruction " + what + " by " + of + " in ring " + ring;
                    b.run(1);
                    if (of > ring) {
                        b.fault(call, 5, 1, 1);
                        Due.is(call, b.x.saved(), Words.pointer(1, 1, ring));
                    } else {
                        b.noFault(call).counter(call, 1, 7, ring);
                    }
                }
            }
        }
        // By an indirect word, and not taken: "nothing more than that the address is found".
        for (int what = Words.TZE; what <= Words.TMI; what++) {
            Bench b = inRing(2, Words.indirect(Words.op(what, 9)));
            b.x.poke(Bench.CODE + 9, Words.pointer(1, 7, 3));
            b.x.set(Words.A, what == Words.TZE ? 1 : 0);
            b.run(1).noFault("not taken").counter("not taken", 1, 2, 2);
            b.x.set(Words.A, what == Words.TZE ? 0 : BIT_35);
            b.at(1, 1, 2).run(1).fault("taken", 5, 1, 1);
            Bench c = inRing(2, Words.indirect(Words.op(what, 256)));
            c.x.set(Words.A, what == Words.TZE ? 1 : 0);
            c.run(1).fault("not taken, and no address", 3, 1, 256);
        }
    }

    /** TRA, EPP, EAA: the word of the address need not be there. */
    private static void addressesAreNotReached() {
        for (int what : new int[] {Words.TRA, Words.EPP + 1, Words.EAA}) {
            for (int segment : new int[] {1, 2, 14}) {
                Bench b = inRing(0, Words.op(what, 0, 4095)).pointTo(0, segment, 0, 0).run(1);
                b.noFault("instruction " + what + " of segment " + segment).copies("it", 0, 1);
            }
        }
        Bench b = inRing(0, Words.op(Words.EAA, 4095));
        b.x.set(Words.A, Words.TOP);
        b.run(1).register("EAA of the last", Words.A, 4095).at(1, 1, 0).x.poke(Bench.CODE + 1, Words.op(Words.EAA, 0));
        b.run(1).register("EAA of the first", Words.A, 0);
    }

    /** "(k is 0 .. 3)": LDX, STX, EPP, SPR of the first and the last, and what stands beside them. */
    private static void firstAndLastOfFour() {
        for (int k = 0; k < 4; k++) {
            Bench b = new Bench().data(1111).pointTo(2, 2, 0, 0);
            b.code(Words.op(Words.LDX + k, 2, 0), Words.op(Words.STX + k, 2, 1), Words.op(Words.EPP + k, 2, 2));
            b.words(Bench.CODE + 3, Words.op(Words.SPR + k, 0, 0)).run(1);
            for (int j = 0; j < 4; j++) {
                b.register("LDX " + k, Words.X + j, j == k ? 1111 : 0);
                b.x.set(Words.X + j, 10 + j);
            }
            b.run(1).word("STX " + k, Bench.DATA + 1, 10 + k).run(1);
            for (int j = 0; j < 4; j++) {
                long before = j < 2 ? 1L << 33 : Words.pointer(j, 0, 0);
                b.register("EPP " + k, Words.P + j, j == k ? Words.pointer(2, 2, 0) : before);
            }
            for (int j = 0; j < 4; j++) {
                b.pointTo(j, 2, 20 + j, j == k ? 4 : 0);
            }
            b.run(1).word("SPR " + k, Bench.DATA + 20, Words.pointer(2, 20 + k, 4));
        }
        // The highest of all pointers: neither number nor going on.
        Bench b = new Bench().code(Words.op(Words.SPR + 1, 2, 0));
        b.x.set(Words.P + 1, Words.TOP);
        b.run(1).word("SPR", Bench.DATA, Words.pointer(15, 4095, 7));
    }

    /** "A and Q change places." */
    private static void exchanges() {
        for (long a : new long[] {0, 1, Words.TOP}) {
            for (long q : new long[] {0, 2, Words.TOP}) {
                Bench b = inRing(4, Words.op(Words.EXQ, 0));
                b.x.set(Words.A, a);
                b.x.set(Words.Q, q);
                b.run(1).register("EXQ", Words.A, q).register("EXQ", Words.Q, a).counter("EXQ", 1, 2, 4);
            }
        }
    }

    /** CALL of word 9 of segment 4, whose GATES and rings are told, by a pointer of a ring, from ring 0. */
    private static Bench call(int r1, int r2, int r3, int gates, int ring) {
        Bench b = inRing(0, Words.op(Words.CALL, 1, 0)).pointTo(1, 4, 9, ring);
        b.segment(4, Words.first(1024, 100), Words.second(r1, r2, r3, Words.EXECUTE, gates));
        return b.run(1);
    }

    private static void called(String what, Bench b, int ring) {
        if (ring < 0) {
            b.fault(what, 5, 1, 1).register(what, Words.P, 1L << 33);
            Due.is(what, b.x.saved(), Words.pointer(1, 1, 0));
        } else {
            b.noFault(what).counter(what, 4, 9, ring).register(what, Words.P, Words.pointer(1, 2, 0));
        }
    }

    /** "If the effective ring is R1 .. R2, ... if it is above R2 and at most R3 ... else FAULT 5", for all rings. */
    private static void callsByBrackets() {
        for (int rings = 0; rings < 8 * 8 * 8 * 8; rings++) {
            int r1 = rings % 8;
            int r2 = rings / 8 % 8;
            int r3 = rings / 64 % 8;
            int ring = rings / 512;
            boolean isInside = r1 <= ring && ring <= r2;
            boolean isAbove = r2 < ring && ring <= r3;
            String what = "CALL of R1 " + r1 + ", R2 " + r2 + ", R3 " + r3 + " in ring " + ring;
            // Word 9 is the last below 10 gates, and not below 9.
            called(what + " at the last gate", call(r1, r2, r3, 10, ring), isInside ? ring : isAbove ? r2 : -1);
            called(what + " behind the last gate", call(r1, r2, r3, 9, ring), isInside ? ring : -1);
        }
    }

    /** "FAULT 5 if the word is not below GATES". */
    private static void callsByGates() {
        for (int gates : new int[] {0, 1, 2048, 4094, 4095}) {
            for (int word : new int[] {0, gates - 1, gates, gates + 1, 4095}) {
                if (word < 0 || word > 4095) {
                    continue;
                }
                Bench b = inRing(5, Words.op(Words.CALL, 1, 0)).pointTo(1, 4, word, 0);
                b.segment(4, Words.first(1024, 100), Words.second(1, 2, 5, Words.EXECUTE, gates)).run(1);
                String what = "CALL of word " + word + " with GATES " + gates;
                if (word < gates) {
                    b.noFault(what).counter(what, 4, word, 2).register(what, Words.P, Words.pointer(1, 2, 5));
                } else {
                    b.fault(what, 5, 1, 1);
                }
            }
        }
    }

    /** "the address' descriptor is looked for: FAULT 1, and 4 if it may not be EXECUTED". */
    private static void callsLookForTheDescriptorAlone() {
        for (int access = 0; access <= Words.ALL; access += Words.READ) {
            for (int ring : new int[] {0, 7}) {
                Bench b = inRing(0, Words.op(Words.CALL, 1, 5)).pointTo(1, 4, 4094, ring);
                // Neither BOUND nor the page matter, which is not THERE.
                b.segment(4, Words.PAGED | Words.first(3000, 0), Words.second(0, 0, 0, access, 0)).run(1);
                if ((access & Words.EXECUTE) == 0) {
                    b.fault("access " + access, 4, 4, 3);
                } else if (ring == 7) {
                    b.fault("in ring 7", 5, 1, 1);
                } else {
                    b.noFault("above BOUND").counter("above BOUND", 4, 3, 0);
                }
                b.copies("CALL", 0, 4, 1).copies("CALL", 1);
            }
        }
        Bench b = inRing(0, Words.op(Words.CALL, 1, 5)).pointTo(1, 4, 4094, 7);
        b.segment(4, Words.TOP ^ Words.THERE, 0).run(1).fault("not THERE", 1, 4, 3).copies("CALL", 0, 1);
    }

    /** "the RING is the greatest of it, the effective ring, and the word's ring", for all rings. */
    private static void returnsInTheGreatestRing() {
        for (int rings = 0; rings < 8 * 8 * 8; rings++) {
            int ring = rings % 8;
            int of = rings / 8 % 8;
            int words = rings / 64;
            Bench b = inRing(ring, Words.op(Words.RTN, 2, 0)).data(Words.pointer(9, 70, words)).pointTo(2, 2, 0, of);
            b.segment(2, Words.first(Bench.DATA, 0), Words.second(0, 7, 7, Words.READ, 0)).run(1);
            String what = "RTN in ring " + ring + " by " + of + " to " + words;
            b.noFault(what).counter(what, 9, 70, Math.max(ring, Math.max(of, words)));
        }
        // R1 of the word's own segment raises nothing: it is no indirect word.
        Bench b = inRing(0, Words.op(Words.RTN, 2, 0)).data(Words.pointer(9, 70, 0)).run(1);
        b.counter("RTN by segment 2 of R1 4", 9, 70, 0);
    }

    /** "must be a pointer word of kind 1 (FAULT 6)". */
    private static void returnsByKind1() {
        for (int kind = 0; kind < 8; kind++) {
            Bench b = inRing(0, Words.op(Words.RTN, 2, 0)).data(Words.goesOn(Words.kind(kind, 1, 70, 3))).run(1);
            if (kind == 1) {
                b.noFault("kind 1").counter("kind 1", 1, 70, 3);
            } else {
                b.fault("kind " + kind, 6, 1, 1);
            }
        }
        inRing(0, Words.op(Words.RTN, 2, 0)).data(0).run(1).fault("RTN by the word 0", 6, 1, 1);
        inRing(0, Words.op(Words.RTN, 2, 0)).data(Words.TOP).run(1).fault("RTN by the highest word", 6, 1, 1);
        inRing(0, Words.op(Words.RTN, 2, 0)).data(1L << 33).run(1).counter("RTN by the least of kind 1", 0, 0, 0);
    }

    /** "These only in ring 0: FAULT 7", of 36 to 38 alone. */
    private static void onlyInRing0() {
        for (int what = Words.CLEAR; what <= Words.STOP; what++) {
            for (int ring = 0; ring < 8; ring++) {
                // It HANDLES, so that RCU is let through.
                Bench b = inRing(0, Words.op(50, 0)).run(1);
                b.x.poke(Bench.CODE + 4, Words.op(what, 0));
                b.at(1, 4, ring).run(1);
                String call = "instruction " + what + " in ring " + ring;
                if (ring == 0) {
                    b.told(call, 6, 1, 1);
                } else {
                    b.told(call, 7, 1, 4).counter(call, 1, 4, ring);
                }
            }
        }
        for (int what : new int[] {39, 63}) {
            inRing(7, Words.op(what, 0)).run(1).fault("instruction " + what + " in ring 7", 6, 1, 1);
        }
        for (int what : new int[] {0, Words.EXQ, Words.EAA}) {
            inRing(7, Words.op(what, 0)).run(1).noFault("instruction " + what + " in ring 7");
        }
    }

    /** "it HANDLES no more (FAULT 6 if it does not)". */
    private static void returnsFromFaults() {
        Bench b = inRing(6, Words.op(50, 0)).run(1);
        b.x.poke(64 + 22, Words.op(Words.RCU, 0));
        b.run(1).counter("RCU", 1, 1, 6);
        Due.is("it HANDLES no more", b.x.state(1), 0);
        b.x.poke(Bench.CODE + 1, Words.op(Words.RCU, 0));
        b.at(1, 1, 0).run(1).fault("RCU again", 6, 1, 1);
        Due.is("saved", b.x.saved(), Words.pointer(1, 1, 0));
        // What is done between leaves what was SAVED alone.
        Bench c = inRing(6, Words.op(50, 0)).run(1);
        c.words(64 + 22, Words.op(Words.EAA, 5), Words.op(Words.LDQ, 2, 0), Words.op(Words.CALL, 2), Words.op(Words.RCU, 0));
        c.words(64 + 2, Words.indirect(Words.op(Words.EPP, 8)), Words.op(Words.RTN, 9), 0, 0, 0, 0, 0, Words.pointer(0, 25, 0));
        c.run(5);
        Due.is("saved", c.x.saved(), Words.pointer(1, 1, 6));
        c.counter("RTN when ring 6 was SAVED", 0, 25, 0).run(1).counter("RCU behind others", 1, 1, 6);
        // Behind go() neither.
        b.run(1).counter("RCU of that", 1, 1, 0).run(1).x.go();
        b.run(1).told("RCU behind go()", 6, 0, 22);
        Due.is("saved", b.x.saved(), Words.pointer(0, 22, 0));
    }

    /** "Others (k is 0 .. 3): FAULT 6": 38 is none, 39 the first, 63 the last. */
    private static void numbersOfInstructions() {
        for (int what = 0; what < 64; what++) {
            Bench b = new Bench().code(Words.op(50, 0)).run(1);
            b.x.poke(Bench.CODE + 4, Words.op(what, 2, 9));
            b.x.poke(Bench.DATA + 9, Words.pointer(1, 7, 0));
            b.pointTo(2, what == Words.CALL ? 1 : 2, 0, 0).at(1, 4, 0).run(1);
            b.told("instruction " + what, 6, 1, what > 38 ? 4 : 0);
            Due.is("instruction " + what + " stops", b.x.state(0), what >= 38 ? 1 : 0);
        }
    }
}
