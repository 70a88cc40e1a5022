/** The edges of an instruction's address: greater rings, kinds, and the sixth word of a chain (promise 6). */
final class EdgesOfAddressesTest {
    private static final int AT = 9;

    public static void main(String[] args) {
        theRingWithoutPointer();
        greaterOfTheRingAndThePointers();
        greatestOfItselfAndR1();
        greaterOfItselfAndTheWords();
        greaterOfItselfAndThePointersOfTheWord();
        kind0RaisesNothingMore();
        reachedByTheEffectiveRing();
        kindsThatAreNone();
        bit20GoesOn();
        theSixthWord();
        theFifthWordsFaults();
        noAddressIsFound();
        Due.end();
    }

    /** A code segment of all rings, which is at a word of it, by EPP1. */
    private static Bench inRing(int ring, long instruction) {
        Bench b = new Bench().segment(1, Words.first(Bench.CODE, 255), Words.second(0, 7, 7, Words.ALL, 0));
        return b.code(instruction).at(1, 0, ring);
    }

    private static void found(String what, Bench b, int segment, int word, int ring) {
        b.run(1).register(what, Words.P + 1, Words.pointer(segment, word, ring)).noFault(what);
    }

    /** "the EFFECTIVE ring is the RING". */
    private static void theRingWithoutPointer() {
        for (int ring = 0; ring < 8; ring++) {
            Bench b = inRing(ring, Words.op(Words.EPP + 1, 70)).pointTo(0, 9, 9, 7);
            found("no pointer in ring " + ring, b, 1, 70, ring);
        }
    }

    /** "with p the greater of it and Pn's". */
    private static void greaterOfTheRingAndThePointers() {
        for (int ring = 0; ring < 8; ring++) {
            for (int of = 0; of < 8; of++) {
                Bench b = inRing(ring, Words.op(Words.EPP + 1, 3, 70)).pointTo(3, 9, 0, of);
                found("a pointer of " + of + " in ring " + ring, b, 9, 70, Math.max(ring, of));
            }
        }
    }

    /** Through an indirect word at word 9 of segment 6, whose R1 is told and R2 is 7. */
    private static Bench through(int ring, int r1, long word) {
        Bench b = inRing(ring, Words.indirect(Words.op(Words.EPP + 1, 2, AT))).pointTo(2, 6, 0, 0);
        b.segment(6, Words.first(Bench.DATA, 255), Words.second(r1, 7, 7, Words.READ, 0));
        b.x.poke(Bench.DATA + AT, word);
        return b;
    }

    /** "the effective ring becomes the greatest of itself and that segment's R1". */
    private static void greatestOfItselfAndR1() {
        for (int ring = 0; ring < 8; ring++) {
            for (int r1 = 0; r1 < 8; r1++) {
                String what = "R1 " + r1 + " in ring " + ring;
                found(what, through(ring, r1, Words.kind(0, 0, 5, 0)), 6, 5, Math.max(ring, r1));
                found(what, through(ring, r1, Words.pointer(4, 5, 0)), 4, 5, Math.max(ring, r1));
                found(what, through(ring, r1, Words.kind(2, 0, 5, 0)), 0, 5, Math.max(ring, r1));
            }
        }
    }

    /** "the effective ring the greater of itself and its ring". */
    private static void greaterOfItselfAndTheWords() {
        for (int ring = 0; ring < 8; ring++) {
            for (int of = 0; of < 8; of++) {
                String what = "kind 1 of ring " + of + " in ring " + ring;
                found(what, through(ring, 0, Words.pointer(4, 5, of)), 4, 5, Math.max(ring, of));
                found(what, through(0, ring, Words.pointer(4, 5, of)), 4, 5, Math.max(ring, of));
            }
        }
    }

    /** "segment and word of the pointer of its number, ... likewise". */
    private static void greaterOfItselfAndThePointersOfTheWord() {
        for (int ring = 0; ring < 8; ring++) {
            for (int of = 0; of < 8; of++) {
                String what = "kind 2 by a pointer of ring " + of + " in ring " + ring;
                Bench b = through(ring, 0, Words.number(Words.kind(2, 0, 5, 0), 3)).pointTo(3, 8, 20, of);
                found(what, b, 8, 25, Math.max(ring, of));
                Bench c = through(0, ring, Words.number(Words.kind(2, 0, 5, 0), 3)).pointTo(3, 8, 20, of);
                found(what, c, 8, 25, Math.max(ring, of));
            }
        }
    }

    /** "0: its word, in the same segment". */
    private static void kind0RaisesNothingMore() {
        found("kind 0", through(2, 1, Words.kind(0, 15, 4095, 7)), 6, 4095, 2);
        found("kind 0, the word 0", through(2, 1, 0), 6, 0, 2);
    }

    /** "the word there is reached by the effective ring, to read": the last ring that may, and the next. */
    private static void reachedByTheEffectiveRing() {
        for (int r2 = 0; r2 < 7; r2++) {
            for (int above = 0; above < 2; above++) {
                Bench b = through(0, 0, Words.pointer(4, 5, 0)).pointTo(2, 6, 0, r2 + above);
                b.segment(6, Words.first(Bench.DATA, AT), Words.second(0, r2, 7, Words.READ, 0));
                // The second word is reached by the ring that the first has raised.
                Bench c = through(0, 0, 0).segment(7, Words.first(Bench.DATA, AT), Words.second(0, r2, 7, Words.READ, 0));
                c.x.poke(Bench.DATA + AT, Words.goesOn(Words.pointer(7, AT - 1, r2 + above)));
                c.x.poke(Bench.DATA + AT - 1, Words.pointer(4, 5, 0));
                if (above == 0) {
                    found("a first word by ring " + r2, b, 4, 5, r2);
                    found("a second word by ring " + r2, c, 4, 5, r2);
                } else {
                    b.run(1).fault("a first word above " + r2, 4, 6, AT);
                    c.run(1).fault("a second word above " + r2, 4, 7, AT - 1);
                }
            }
        }
        // The raise by R1 comes behind the reach of that word, and ahead of the next one.
        Bench d = through(0, 6, Words.goesOn(Words.pointer(7, 3, 0)));
        d.segment(7, Words.first(Bench.DATA, AT), Words.second(0, 5, 7, Words.READ, 0));
        d.run(1).fault("raised by R1", 4, 7, 3);
        Bench e = through(0, 6, Words.pointer(4, 5, 0));
        e.segment(6, Words.first(Bench.DATA, AT), Words.second(6, 0, 7, Words.READ, 0));
        found("R1 above R2", e, 4, 5, 6);
    }

    /** "Others: FAULT 6": 3 is the first of them, 7 the last; 2 is none. */
    private static void kindsThatAreNone() {
        for (int kind = 0; kind < 8; kind++) {
            Bench b = through(2, 0, Words.kind(kind, 0, 5, 0));
            b.run(1);
            if (kind <= 2) {
                b.noFault("kind " + kind);
            } else {
                b.fault("kind " + kind, 6, 1, 0);
                Due.is("saved", b.x.saved(), Words.pointer(1, 0, 2));
            }
        }
    }

    /** "20 whether it goes on": the bits beside it do not say so. */
    private static void bit20GoesOn() {
        for (int bit = 12; bit < 33; bit++) {
            if (bit >= 18 && bit != 20 && bit < 28) {
                continue;
            }
            Bench b = through(0, 0, 1L << bit | 5);
            b.x.poke(Bench.DATA + 5, Words.kind(0, 0, 6, 0));
            found("bit " + bit, b, 6, bit == 20 ? 6 : 5, 0);
        }
        found("bits 19 and 21", through(0, 0, 1L << 19 | 1L << 21 | 5), 6, 5, 0);
    }

    /** A chain from word 9 on, each word naming the next, the last of them as told. */
    private static Bench chain(int length, long last) {
        Bench b = through(0, 0, 0);
        for (int k = 0; k < length - 1; k++) {
            b.x.poke(Bench.DATA + AT + k, Words.goesOn(Words.kind(0, 0, AT + k + 1, 0)));
        }
        b.x.poke(Bench.DATA + AT + length - 1, last);
        return b;
    }

    /** "If it goes on, the word there likewise, and on; but FAULT 6 if a sixth word were." */
    private static void theSixthWord() {
        for (int length = 1; length <= 5; length++) {
            found("a chain of " + length, chain(length, Words.pointer(4, 5, 3)), 4, 5, 3);
            found("a chain of " + length, chain(length, Words.kind(0, 0, 5, 0)), 6, 5, 0);
            found("a chain of " + length, chain(length, Words.kind(2, 0, 5, 0)), 0, 5, 0);
        }
        for (int length = 6; length <= 8; length++) {
            chain(length, Words.pointer(4, 5, 3)).run(1).fault("a chain of " + length, 6, 1, 0);
        }
        // Of words of kind 2 and 1 that go on, the fifth is the last as well.
        for (int kind = 1; kind <= 2; kind++) {
            long on = Words.goesOn(Words.number(Words.kind(kind, 6, AT + 1, 0), 3));
            for (int length = 2; length <= 6; length++) {
                Bench b = chain(1, 0).pointTo(3, 6, 0, 0);
                for (int k = 0; k < length - 1; k++) {
                    b.x.poke(Bench.DATA + AT + k, on + k);
                }
                b.x.poke(Bench.DATA + AT + length - 1, Words.kind(0, 0, 5, 0));
                if (length < 6) {
                    found(length + " of kind " + kind, b, 6, 5, 0);
                } else {
                    b.run(1).fault("six of kind " + kind, 6, 1, 0);
                }
            }
        }
        // It would be out of reach, and is not looked for.
        Bench b = chain(5, Words.goesOn(Words.pointer(3, 0, 7)));
        b.run(1).fault("a sixth word out of reach", 6, 1, 0).copies("it", 0, 6, 1).copies("it", 1);
        chain(5, Words.goesOn(Words.pointer(14, 0, 0))).run(1).fault("a sixth word in no segment", 6, 1, 0);
        chain(1, Words.goesOn(Words.kind(0, 0, AT, 0))).run(1).fault("a chain without an end", 6, 1, 0);
    }

    /** The fifth is reached like the first, with the faults of its own. */
    private static void theFifthWordsFaults() {
        chain(4, Words.goesOn(Words.pointer(14, 0, 0))).run(1).fault("a fifth word in no segment", 1, 14, 0);
        chain(4, Words.goesOn(Words.kind(0, 0, 256, 0))).run(1).fault("a fifth word above BOUND", 3, 6, 256);
        chain(4, Words.goesOn(Words.pointer(3, 0, 6))).run(1).fault("a fifth word above R2", 4, 3, 0);
        Bench b = chain(4, Words.goesOn(Words.pointer(3, 64, 0)));
        b.x.poke(Bench.PAGES + 1, 0);
        b.run(1).fault("a fifth word of no page", 2, 3, 64);
        chain(5, Words.kind(3, 0, 0, 0)).run(1).fault("a fifth word of no kind", 6, 1, 0);
        chain(5, Words.goesOn(Words.kind(7, 0, 0, 0))).run(1).fault("a fifth word of no kind", 6, 1, 0);
    }

    /** "(Of 0, 33, 36 to 38 and others no address is found.)" Of all else it is, with its faults. */
    private static void noAddressIsFound() {
        for (int what = 0; what < 64; what++) {
            Bench b = new Bench().code(Words.op(50, 0)).run(1);
            // Here it HANDLES, so that RCU goes too; a fault of the address is 1, of segment 14.
            b.x.poke(Bench.CODE + 4, Words.indirect(Words.op(what, 0, 3)));
            b.pointTo(0, 14, 0, 0).at(1, 4, 0).run(1);
            boolean isFound = what >= 1 && what <= 35 && what != Words.EXQ;
            String call = "instruction " + what;
            if (isFound) {
                b.told(call, 1, 14, 3);
            } else {
                b.told(call, 6, 1, what > 38 ? 4 : 0);
            }
            Due.is(call + " stops", b.x.state(0), isFound || what >= 38 ? 1 : 0);
        }
    }
}
