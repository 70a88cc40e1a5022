/** The edges of words and numbers, and of each bit that has a meaning ("Terms"; promises 2 to 6). */
final class EdgesOfWordsTest {
    private static final long TWO_36 = 1L << 36;

    public static void main(String[] args) {
        wordsHave36Bits();
        sumsAreModulo2To36();
        oneMoreIsModulo2To36();
        allBitsAreLoadedAndStored();
        indexesAreModulo4096();
        bitsOfRegisters();
        bitsOfIndirectWords();
        bitsOfReturnWords();
        bitsOfInstructions();
        bitsOfDescriptors();
        bitsOfPagesWords();
        Due.end();
    }

    /** "WORDS have 36 bits", "becomes v modulo 2^36". */
    private static void wordsHave36Bits() {
        for (int bit = 0; bit < 64; bit++) {
            word(1L << bit, bit < 36 ? 1L << bit : 0);
        }
        word(0, 0);
        word(TWO_36 - 1, TWO_36 - 1);
        word(TWO_36 + 1, 1);
        word(-1, TWO_36 - 1);
        word(-TWO_36 + 1, 1);
        word(-TWO_36, 0);
        word(-TWO_36 - 1, TWO_36 - 1);
        word(Long.MAX_VALUE, TWO_36 - 1);
    }

    private static void word(long v, long want) {
        RingProcessor x = new RingProcessor();
        x.poke(100, v);
        Due.is("poke of " + v, x.peek(100), want);
        for (int k = 0; k < 2; k++) {
            x.set(k, v);
            Due.is("set(" + k + ", " + v + ")", x.get(k), want);
        }
    }

    /** "A becomes the sum, difference, product with it, modulo 2^36; ... bit by bit". */
    private static void sumsAreModulo2To36() {
        long top = TWO_36 - 1;
        long half = 1L << 18;
        onA(Words.LDA, 0, top, top);
        onA(Words.ADA, top - 1, 1, top);
        onA(Words.ADA, top, 1, 0);
        onA(Words.ADA, top, top, top - 1);
        onA(Words.ADA, 1L << 35, 1L << 35, 0);
        onA(Words.SBA, 1, 1, 0);
        onA(Words.SBA, 0, 1, top);
        onA(Words.SBA, 0, top, 1);
        onA(Words.SBA, top, top, 0);
        onA(Words.SBA, 0, 0, 0);
        onA(Words.MPA, half, half >> 1, 1L << 35);
        onA(Words.MPA, half, half, 0);
        onA(Words.MPA, half - 1, half + 1, top);
        onA(Words.MPA, half, half + 1, half);
        onA(Words.MPA, top, 2, top - 1);
        onA(Words.MPA, top, top, 1);
        onA(Words.MPA, top, 0, 0);
        onA(Words.ANA, top, 1L << 35, 1L << 35);
        onA(Words.ANA, top, 0, 0);
        onA(Words.ORA, 1L << 35, 1, 1L << 35 | 1);
        onA(Words.ORA, 0, 0, 0);
        onA(Words.ERA, top, top, 0);
        onA(Words.ERA, 0, top, top);
    }

    private static void onA(int what, long a, long word, long want) {
        Bench b = new Bench().code(Words.op(what, 2, 0)).data(word);
        b.x.set(Words.A, a);
        b.run(1).register("instruction " + what + " of " + a + " and " + word, Words.A, want);
    }

    /** "AOS: the word becomes one more". */
    private static void oneMoreIsModulo2To36() {
        for (long word : new long[] {0, TWO_36 - 2, TWO_36 - 1}) {
            Bench b = new Bench().code(Words.op(Words.AOS, 2, 0)).data(word, 7);
            b.run(1).word("AOS of " + word, Bench.DATA, (word + 1) % TWO_36).word("the next", Bench.DATA + 1, 7);
        }
    }

    /** "1 LDA, 2 STA", "9 LDQ, 10 STQ": of no bits and of all. */
    private static void allBitsAreLoadedAndStored() {
        for (long word : new long[] {0, 1, 1L << 35, TWO_36 - 1}) {
            Bench b = new Bench().data(word, ~word, word, ~word);
            b.code(Words.op(Words.LDA, 2, 0), Words.op(Words.LDQ, 2, 1), Words.op(Words.STQ, 2, 2), Words.op(Words.STA, 2, 3));
            long other = ~word & TWO_36 - 1;
            b.run(2).register("LDA of " + word, Words.A, word).register("LDQ of " + other, Words.Q, other);
            b.run(2).word("STQ", Bench.DATA + 2, other).word("STA", Bench.DATA + 3, word);
            b.register("A stays", Words.A, word).register("Q stays", Words.Q, other);
        }
    }

    /** "X0 .. X3, numbers 0 .. 4095", "Xk becomes it modulo 4096; the word becomes Xk". */
    private static void indexesAreModulo4096() {
        long[] values = {0, 4095, 4096, 4097, 8191, 8192, TWO_36 - 1, TWO_36, -1, -4095, -4096, -4097};
        for (int k = 0; k < 4; k++) {
            for (long v : values) {
                long want = Math.floorMod(v, 4096L);
                Bench b = new Bench().code(Words.op(Words.LDX + k, 2, 0), Words.op(Words.STX + k, 2, 1));
                b.x.set(Words.X + k, v);
                b.register("set of " + v, Words.X + k, want);
                b.x.set(Words.X + k, 5);
                b.data(v, TWO_36 - 1).run(1).register("LDX of " + v, Words.X + k, want);
                b.run(1).word("STX of " + v, Bench.DATA + 1, want);
            }
        }
    }

    private static boolean isOfPlace(int bit) {
        return bit < 12 || bit >= 21 && bit < 28;
    }

    /** "A POINTER WORD: bits 33 to 35 its kind, 24 to 27 a segment, 21 to 23 a ring, ... 0 to 11 a word" in set. */
    private static void bitsOfRegisters() {
        for (int k = 6; k <= 10; k++) {
            for (int bit = 0; bit < 64; bit++) {
                RingProcessor x = new RingProcessor();
                x.set(k, 1L << bit);
                Due.is("set(" + k + ") of bit " + bit, x.get(k), 1L << 33 | (isOfPlace(bit) ? 1L << bit : 0));
                x.set(k, ~(1L << bit));
                long all = Words.pointer(15, 4095, 7);
                Due.is("set(" + k + ") without bit " + bit, x.get(k), isOfPlace(bit) ? all ^ 1L << bit : all);
            }
        }
    }

    /** The same of an indirect word of kind 1; bit 20, "whether it goes on", has its own tests. */
    private static void bitsOfIndirectWords() {
        for (int bit = 0; bit < 33; bit++) {
            if (bit != 20) {
                Bench b = new Bench().code(Words.indirect(Words.op(Words.EPP + 1, 9)));
                b.x.poke(Bench.CODE + 9, 1L << 33 | 1L << bit);
                b.run(1).register("kind 1, bit " + bit, Words.P + 1, 1L << 33 | (isOfPlace(bit) ? 1L << bit : 0));
            }
        }
        // "18 and 19 a number": all else of a word of kind 2 but its word says nothing.
        for (int bit = 0; bit < 33; bit++) {
            if (bit != 20) {
                Bench b = new Bench().code(Words.indirect(Words.op(Words.EPP, 9)));
                b.pointTo(0, 4, 0, 0).pointTo(1, 5, 0, 0).pointTo(2, 6, 0, 0);
                b.x.poke(Bench.CODE + 9, 1L << 34 | 1L << bit);
                int segment = bit == 18 ? 5 : bit == 19 ? 6 : 4;
                b.run(1).register("kind 2, bit " + bit, Words.P, Words.pointer(segment, bit < 12 ? 1 << bit : 0, 0));
            }
        }
    }

    /** The same of the word of RTN, which does not go on. */
    private static void bitsOfReturnWords() {
        for (int bit = 0; bit < 33; bit++) {
            Bench b = new Bench().code(Words.op(Words.RTN, 2, 0)).data(1L << 33 | 1L << bit);
            b.run(1).register("RTN, bit " + bit, Words.COUNTER, 1L << 33 | (isOfPlace(bit) ? 1L << bit : 0));
        }
    }

    /** "29 p, 27 and 28 n, 26 i, 24 and 25 x, 0 to 11 y": each bit beside what EPP1 of y = 0 finds without it. */
    private static void bitsOfInstructions() {
        for (int bit = 0; bit < 30; bit++) {
            Bench b = new Bench().code(Words.op(Words.EPP + 1, 0) | 1L << bit).pointTo(0, 9, 90, 0);
            for (int k = 0; k < 4; k++) {
                b.x.set(Words.X + k, 100 + k);
            }
            long want = bit < 12 ? Words.pointer(1, 1 << bit, 0) : Words.pointer(1, 0, 0);
            if (bit == 24 || bit == 25) {
                want = Words.pointer(1, 101 + bit - 24, 0);
            } else if (bit == 29) {
                want = Words.pointer(9, 90, 0);
            }
            if (bit == 26) {
                // The word at y is the instruction itself, of kind 3 by its bits 33 to 35.
                b.run(1).fault("bit 26", 6, 1, 0);
            } else {
                b.run(1).register("bit " + bit, Words.P + 1, want);
            }
        }
        for (int n = 0; n < 4; n++) {
            Bench b = new Bench().code(Words.op(Words.EPP + 1, n, 0)).pointTo(n, 6 + n, n, 0);
            b.run(1).register("n " + n, Words.P + 1, Words.pointer(6 + n, n, 0));
        }
    }

    /** "bits 0 to 11 BASE, 12 to 23 BOUND", "bits 0 to 2, 3 to 5, 6 to 8 rings": others say nothing. */
    private static void bitsOfDescriptors() {
        for (int bit = 0; bit < 12; bit++) {
            Bench base = new Bench().segment(6, Words.first(1 << bit, 0), Words.second(0, 0, 0, Words.READ, 0));
            Due.is("BASE, bit " + bit, base.x.reach(6, 0, 0, 0), 1 << bit);
            Bench bound = new Bench().segment(6, Words.first(0, 1 << bit), Words.second(0, 0, 0, Words.READ, 0));
            Due.is("BOUND, bit " + bit, bound.x.reach(6, 1 << bit, 0, 0), 1 << bit);
            Due.is("above it", bound.x.reach(6, (1 << bit) + 1, 0, 0), -4);
        }
        for (int bit = 24; bit < 34; bit++) {
            long first = Words.first(700, 9) | 1L << bit;
            Ways.due("first word, bit " + bit, new Bench().segment(6, first, Words.second(1, 1, 1, 3 << 9, 0)), 6, 9, 1, 1, 709);
            Due.is("its BOUND", new Bench().segment(6, first, Words.second(1, 1, 1, 3 << 9, 0)).x.reach(6, 10, 1, 1), -4);
        }
        for (int bit = 24; bit < 36; bit++) {
            long second = Words.second(1, 1, 1, Words.EXECUTE, 0) | 1L << bit;
            for (int way = 0; way < 3; way++) {
                Bench b = new Bench().segment(6, Words.first(700, 9), second);
                Ways.due("second word, bit " + bit, b, 6, 9, 1, way, way == 2 ? 709 : -5);
            }
        }
    }

    /** "bit 35 it is THERE, bits 0 to 5 its frame, bit 34 USED, bit 33 CHANGED": others say nothing, and stay. */
    private static void bitsOfPagesWords() {
        for (int bit = 0; bit < 35; bit++) {
            Bench b = new Bench();
            long page = Words.THERE | 1L << bit;
            b.x.poke(Bench.PAGES, page);
            Ways.due("a page's word, bit " + bit, b, 3, 40, 0, 0, bit < 6 ? 64 * (1 << bit) + 40 : 40);
            b.word("it is USED", Bench.PAGES, page | Words.USED);
            b.x.poke(Bench.PAGES + 1, TWO_36 - 1 ^ Words.THERE);
            Due.is("all but THERE", b.x.reach(3, 64, 0, 0), -3);
        }
    }
}
