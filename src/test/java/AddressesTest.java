/** Promise 6: the address of an instruction and its effective ring, as EPP0 tells them. */
final class AddressesTest {
    public static void main(String[] args) {
        direct();
        indexed();
        kinds();
        ringsOfChains();
        lengthOfChains();
        faultsOfChains();
        Due.end();
    }

    private static Bench finds(String what, Bench b, int segment, int word, int ring) {
        b.run(1).register(what, Words.P, Words.pointer(segment, word, ring));
        return b.noFault(what);
    }

    private static void direct() {
        finds("y", new Bench().code(Words.op(Words.EPP, 4095)).at(1, 0, 2), 1, 4095, 2);
        for (int n = 0; n < 4; n++) {
            Bench b = new Bench().code(Words.op(Words.EPP, n, 10)).pointTo(n, 6 + n, 20, 3).at(1, 0, 2);
            finds("P" + n, b, 6 + n, 30, 3);
        }
        // Without p the number n says nothing.
        finds("n without p", new Bench().code(Words.op(Words.EPP, 10) | 3L << 27).pointTo(3, 9, 9, 1), 1, 10, 0);
        finds("the greater is the RING", new Bench().code(Words.op(Words.EPP, 1, 10)).pointTo(1, 6, 0, 1).at(1, 0, 4), 6, 10, 4);
        finds("a sum", new Bench().code(Words.op(Words.EPP, 1, 10)).pointTo(1, 6, 4090, 1), 6, 4, 1);
        // Bits 12 to 23 say nothing.
        finds("idle bits", new Bench().code(Words.op(Words.EPP, 10) | 4095L << 12), 1, 10, 0);
    }

    private static void indexed() {
        for (int x = 0; x < 4; x++) {
            Bench b = new Bench().code(Words.indexed(Words.op(Words.EPP, 10), x));
            for (int k = 0; k < 4; k++) {
                b.x.set(Words.X + k, 100 * (k + 1));
            }
            finds("X" + x, b, 1, x == 0 ? 10 : 10 + 100 * (x + 1), 0);
        }
        Bench b = new Bench().code(Words.indexed(Words.op(Words.EPP, 2, 4000), 3)).pointTo(2, 5, 4001, 0);
        b.x.set(Words.X + 3, 4002);
        finds("all sums", b, 5, (4000 + 4001 + 4002) % 4096, 0);
        Bench first = new Bench().code(Words.indirect(Words.indexed(Words.op(Words.EPP, 2, 3), 1)));
        first.x.set(Words.X + 1, 4);
        first.data(0, 0, 0, Words.pointer(9, 9, 0), 0, 0, 0, Words.pointer(8, 70, 0));
        finds("X is added ahead of the indirect word", first, 8, 70, 4);
    }

    private static Bench chain(long... words) {
        return new Bench().code(Words.indirect(Words.op(Words.EPP, 2, 0))).data(words);
    }

    private static void kinds() {
        // Segment 2 has R1 4, so that the ring is 4 at least.
        finds("kind 1", chain(Words.pointer(11, 50, 0)), 11, 50, 4);
        finds("kind 1 of a higher ring", chain(Words.pointer(11, 50, 6)), 11, 50, 6);
        finds("kind 2", chain(Words.number(Words.kind(2, 0, 8, 0), 1)).pointTo(1, 7, 4093, 0), 7, 5, 4);
        for (int n = 0; n < 4; n++) {
            Bench b = new Bench().code(Words.indirect(Words.op(Words.EPP, 20)));
            for (int k = 0; k < 4; k++) {
                b.pointTo(k, 4 + k, 40 + k, 1 + k);
            }
            b.x.poke(Bench.CODE + 20, Words.number(Words.kind(2, 15, 8, 0), n));
            finds("kind 2 of P" + n, b, 4 + n, 48 + n, 1 + n);
        }
        finds("kind 2 in a higher ring", chain(Words.number(Words.kind(2, 0, 8, 0), 1)).pointTo(1, 7, 0, 2).at(1, 0, 3), 7, 8, 4);
        finds("kind 0", chain(Words.kind(0, 13, 77, 7)), 2, 77, 4);
        long idle = 63L << 12 | 31L << 28;
        finds("kind 0, a high word", chain(Words.kind(0, 0, 4095, 0) | idle), 2, 4095, 4);
        finds("kind 1, a high word", chain(Words.pointer(3, 4095, 0) | idle), 3, 4095, 4);
        finds("kind 2, a high word", chain(Words.kind(2, 0, 4095, 0) | idle).pointTo(0, 5, 4095, 0), 5, 4094, 4);
        finds("the word 0", chain(0), 2, 0, 4);
        Bench on = chain(Words.goesOn(Words.number(Words.kind(2, 0, 1, 0), 3)), 0, Words.pointer(12, 34, 0));
        finds("kind 2 that goes on", on.pointTo(3, 2, 1, 5), 12, 34, 5);
        // The ring is that of the pointer, as are segment and word.
        finds("kind 2 has no ring of its own", chain(Words.kind(2, 0, 8, 7)).pointTo(0, 7, 0, 5), 7, 8, 5);
        for (int kind = 3; kind < 8; kind++) {
            chain(Words.kind(kind, 1, 1, 1)).at(1, 0, 2).run(1).fault("kind " + kind, 6, 1, 0);
            chain(Words.goesOn(Words.kind(kind, 1, 1, 1))).run(1).fault("kind " + kind + " that goes on", 6, 1, 0);
        }
    }

    private static void ringsOfChains() {
        Bench b = new Bench().code(Words.indirect(Words.op(Words.EPP, 20))).at(1, 0, 2);
        b.x.poke(Bench.CODE + 20, Words.pointer(9, 3, 1));
        finds("R1 below the RING", b, 9, 3, 2);
        // The pointer's ring 5 reads segment 2 (R2 is 5); ring 6 does not.
        finds("the effective ring reads", chain(Words.pointer(9, 3, 1)).pointTo(2, 2, 0, 5), 9, 3, 5);
        chain(Words.pointer(9, 3, 1)).pointTo(2, 2, 0, 6).run(1).fault("it may not read", 4, 2, 0);
        // The second word is reached by the ring that the first has raised.
        Bench c = chain(Words.goesOn(Words.pointer(2, 1, 5)), Words.pointer(9, 3, 0));
        finds("a raised ring stays", c, 9, 3, 5);
        chain(Words.goesOn(Words.pointer(2, 1, 6)), Words.pointer(9, 3, 0)).run(1).fault("a raised ring reads", 4, 2, 1);
        // R1 of the segment of a word raises it ahead of the next one.
        Bench d = chain(Words.goesOn(Words.pointer(4, 1, 0)));
        d.segment(4, Words.first(Bench.DATA, 255), Words.second(0, 3, 3, Words.READ, 0));
        d.run(1).fault("R1 raises", 4, 4, 1);
        Bench e = chain(Words.goesOn(Words.kind(0, 9, 1, 7)), Words.pointer(9, 3, 0));
        finds("kind 0 has no ring of its own", e, 9, 3, 4);
    }

    private static void lengthOfChains() {
        long[] words = new long[8];
        for (int k = 0; k < 8; k++) {
            words[k] = Words.goesOn(Words.kind(0, 0, k + 1, 0));
        }
        for (int count = 1; count <= 5; count++) {
            Bench b = chain(words);
            b.x.poke(Bench.DATA + count - 1, Words.pointer(10, count, 0));
            finds("a chain of " + count, b, 10, count, 4);
        }
        Bench six = chain(words);
        six.x.poke(Bench.DATA + 5, Words.pointer(10, 6, 0));
        six.run(1).fault("a sixth word", 6, 1, 0);
        // The sixth is not even reached.
        Bench missing = chain(words);
        missing.x.poke(Bench.DATA + 4, Words.goesOn(Words.pointer(3, 0, 0)));
        missing.run(1).fault("a sixth word elsewhere", 6, 1, 0).copies("no look for it", 0, 2, 1);
        Bench loop = chain(Words.goesOn(Words.kind(0, 0, 0, 0)));
        loop.run(1).fault("a word that names itself", 6, 1, 0);
    }

    private static void faultsOfChains() {
        chain(Words.goesOn(Words.pointer(14, 5, 0))).run(1).fault("no such segment", 1, 14, 5);
        chain(Words.goesOn(Words.pointer(2, 256, 0))).run(1).fault("above BOUND", 3, 2, 256);
        Bench b = chain(Words.goesOn(Words.pointer(3, 65, 0)));
        b.x.poke(Bench.PAGES + 1, 21);
        b.run(1).fault("no page", 2, 3, 65);
        Bench c = chain(Words.goesOn(Words.pointer(3, 65, 0)));
        c.x.poke(Bench.FRAMES + 65, Words.pointer(9, 1, 0));
        finds("a word of a page", c, 9, 1, 4).copies("a word of a page", 1, 3 * 64 + 1);
        // The operand is reached by the effective ring, too.
        Bench d = new Bench().code(Words.op(Words.STA, 2, 0), Words.op(Words.LDA, 2, 0)).pointTo(2, 2, 0, 5).data(3);
        d.run(1).fault("STA in ring 5", 4, 2, 0).word("STA in ring 5", Bench.DATA, 3);
        d.at(1, 1, 0).x.go();
        d.run(1).register("LDA in ring 5", Words.A, 3);
        d.at(1, 1, 0).pointTo(2, 2, 0, 6).run(1).fault("LDA in ring 6", 4, 2, 0);
    }
}
