/** The edges of COPIES: none, the last empty place, the one used least lately, USED and CHANGED (promises 6 and 11). */
final class EdgesOfCopiesTest {
    private static final long FREE = Words.second(7, 7, 7, Words.ALL, 0);
    private static final int[][] ORDERS = {{0, 1, 2}, {0, 2, 1}, {1, 0, 2}, {1, 2, 0}, {2, 0, 1}, {2, 1, 0}};

    public static void main(String[] args) {
        noneAtFirst();
        emptyPlacesFirst();
        leastLatelyUsedDescriptor();
        leastLatelyUsedPage();
        notThereTakesNoPlace();
        everyLookIsAUse();
        namesOfPages();
        usedOnlyWhenCopied();
        changedOnlyOnce();
        changedAheadOfTheWord();
        writtenByInstructions();
        clearsAll();
        whichCopyIsTold();
        reachByCopiesElseByMemory();
        Due.end();
    }

    /** Segments 4 .. 11, of one word each at 600; 12, paged, of all 64 pages, whose words are at 900. */
    private static Bench bench() {
        Bench b = new Bench();
        for (int s = 4; s < 12; s++) {
            b.segment(s, Words.first(600, 9), FREE);
        }
        b.segment(12, Words.PAGED | Words.first(900, 4095), FREE);
        for (int page = 0; page < 8; page++) {
            b.x.poke(900 + page, Words.THERE | 30 + page);
        }
        return b;
    }

    private static Bench does(Bench b, long instruction, int segment, int word) {
        return b.code(instruction).pointTo(1, segment, word, 0).at(1, 0, 0).run(1);
    }

    private static Bench look(Bench b, int segment, int word) {
        return does(b, Words.op(Words.LDA, 1, 0), segment, word);
    }

    private static Bench write(Bench b, int segment, int word) {
        return does(b, Words.op(Words.STA, 1, 0), segment, word);
    }

    private static Bench clear(Bench b) {
        return does(b, Words.op(Words.CLEAR, 0), 0, 0);
    }

    /** "none at first". */
    private static void noneAtFirst() {
        Bench b = bench().copies("at first", 0).copies("at first", 1);
        b.x.run(0);
        b.copies("of run(0)", 0).copies("of run(0)", 1);
        // Neither an interrupt nor a fault's entry is looked for until an instruction is.
        b.x.interrupt(0);
        b.run(1).copies("of an interrupt", 0).run(1).copies("of its first instruction", 0, 0);
    }

    /** "in the place of an empty one". */
    private static void emptyPlacesFirst() {
        Bench b = bench();
        look(b, 4, 0).copies("second", 0, 4, 1);
        look(b, 5, 0).copies("third", 0, 5, 1, 4);
        look(b, 6, 0).copies("fourth", 0, 6, 1, 5, 4);
        look(b, 7, 0).copies("fifth", 0, 7, 1, 6, 5);
        Bench c = bench();
        look(c, 12, 0).copies("first", 1, 768);
        look(c, 12, 64).copies("second", 1, 769, 768);
        look(c, 12, 128).copies("third", 1, 770, 769, 768);
        look(c, 12, 192).copies("fourth", 1, 771, 770, 769, 768);
        look(c, 12, 256).copies("fifth", 1, 772, 771, 770, 769);
    }

    /** "else of the one used least lately": the one that is used again stays, whichever it is. */
    private static void leastLatelyUsedDescriptor() {
        for (int[] order : ORDERS) {
            Bench b = bench();
            for (int s = 4; s < 7; s++) {
                look(b, s, 0);
            }
            for (int k : order) {
                look(b, 4 + k, 0);
            }
            look(b, 9, 0).copies("9", 0, 9, 1, 4 + order[2], 4 + order[1]);
            look(b, 10, 0).copies("10", 0, 10, 1, 9, 4 + order[2]);
            look(b, 11, 0).copies("11", 0, 11, 1, 10, 9);
        }
    }

    private static void leastLatelyUsedPage() {
        for (int[] order : ORDERS) {
            for (int ahead = 0; ahead < 2; ahead++) {
                Bench b = bench();
                for (int page = 0; page < 4; page++) {
                    look(b, 12, 64 * page);
                }
                // Page 3 is used ahead of the three others, or behind them.
                if (ahead == 0) {
                    look(b, 12, 64 * 3);
                }
                for (int k : order) {
                    look(b, 12, 64 * k + 63);
                }
                if (ahead == 1) {
                    look(b, 12, 64 * 3);
                }
                look(b, 12, 64 * 4);
                if (ahead == 0) {
                    b.copies("page 3 goes", 1, 772, 768 + order[2], 768 + order[1], 768 + order[0]);
                } else {
                    b.copies("page " + order[0] + " goes", 1, 772, 771, 768 + order[2], 768 + order[1]);
                }
            }
        }
    }

    /** "it is read, and, if it is THERE, copied": else none goes, and no place is taken. */
    private static void notThereTakesNoPlace() {
        Bench empty = bench();
        look(empty, 14, 0).copies("none but the code's", 0, 1);
        look(empty, 12, 64 * 8).copies("no page", 1);
        Bench full = bench();
        for (int s = 4; s < 7; s++) {
            look(full, s, 0);
        }
        look(full, 14, 0).copies("full of descriptors", 0, 1, 6, 5, 4);
        Bench pages = bench();
        for (int page = 0; page < 4; page++) {
            look(pages, 12, 64 * page);
        }
        look(pages, 12, 64 * 8).copies("full of pages", 1, 771, 770, 769, 768).word("not USED", 908, 0);
        // It is read again each time, until it is THERE.
        pages.x.poke(908, Words.THERE | 38);
        pages.x.go();
        look(pages, 12, 64 * 8).copies("THERE now", 1, 776, 771, 770, 769);
    }

    /** "(each looking is a use)": one that ends in a fault, one of CALL, one of an indirect word; not one of reach(). */
    private static void everyLookIsAUse() {
        Bench b = bench();
        for (int s = 4; s < 7; s++) {
            look(b, s, 0);
        }
        b.copies("at first", 0, 6, 1, 5, 4);
        look(b, 4, 10).fault("above BOUND", 3, 4, 10).copies("above BOUND", 0, 4, 1, 6, 5).x.go();
        does(b, Words.op(Words.CALL, 1, 0), 5, 0).fault("CALL in ring 0", 5, 1, 0).copies("CALL", 0, 5, 1, 4, 6).x.go();
        does(b, Words.indirect(Words.op(Words.EAA, 1, 0)), 6, 0).copies("an indirect word", 0, 6, 1, 5, 4);
        for (int s = 4; s < 8; s++) {
            b.x.reach(s, 0, 0, 0);
        }
        b.copies("reach()", 0, 6, 1, 5, 4);
        does(b, Words.op(Words.EAA, 1, 0), 4, 0).copies("an address alone", 0, 1, 6, 5, 4);
        does(b, Words.op(Words.TRA, 1, 0), 4, 0).copies("TRA", 0, 1, 6, 5, 4);
        Bench c = bench();
        look(c, 12, 0);
        look(c, 12, 64);
        write(c, 12, 1).copies("a write", 1, 768, 769);
        does(c, Words.op(Words.AOS, 1, 0), 12, 65).copies("AOS", 1, 769, 768);
        c.x.reach(12, 0, 0, 0);
        c.copies("reach()", 1, 769, 768);
        // Above BOUND the page is not looked for.
        c.segment(11, Words.PAGED | Words.first(900, 63), FREE);
        look(c, 11, 64).fault("above BOUND", 3, 11, 64).copies("above BOUND", 1, 769, 768);
    }

    /** "64 * segment + page": the first and the last. */
    private static void namesOfPages() {
        Bench b = bench().segment(0, Words.PAGED | Words.first(900, 4095), FREE);
        look(b, 0, 63).copies("the first", 1, 0);
        b.segment(15, Words.PAGED | Words.first(900, 4095), FREE);
        b.x.poke(963, Words.THERE | 40);
        look(b, 15, 4095).copies("the last", 1, 1023, 0);
        look(b, 15, 0).copies("the same page of another segment", 1, 960, 1023, 0);
    }

    /** "When a page's word is copied, it becomes USED in memory, and in the copy." */
    private static void usedOnlyWhenCopied() {
        Bench b = bench();
        long page = Words.THERE | 30;
        look(b, 12, 0).word("copied", 900, page | Words.USED).x.poke(900, page);
        look(b, 12, 1).word("the copy stands", 900, page);
        for (int k = 1; k <= 4; k++) {
            look(b, 12, 64 * k);
        }
        look(b, 12, 2).word("it went, and was copied again", 900, page | Words.USED).x.poke(900, page);
        clear(b).word("CLEAR writes nothing", 900, page);
        look(b, 12, 3).word("it was cleared, and copied again", 900, page | Words.USED);
        // It is not CHANGED by that, and all its other bits stay.
        b.x.poke(901, Words.TOP ^ Words.USED ^ Words.CHANGED);
        look(clear(b), 12, 64).word("other bits", 901, Words.TOP ^ Words.CHANGED);
    }

    /** "a word of a page is written whose copy is not CHANGED": that first time alone. */
    private static void changedOnlyOnce() {
        Bench b = bench();
        long page = Words.THERE | Words.USED | 30;
        look(b, 12, 0).word("read", 900, page);
        write(b, 12, 5).word("written", 900, page | Words.CHANGED).x.poke(900, page);
        write(b, 12, 6).word("the copy is CHANGED", 900, page);
        does(b, Words.op(Words.AOS, 1, 0), 12, 6).word("the copy is CHANGED", 900, page);
        write(clear(b), 12, 7).word("a new copy", 900, page | Words.CHANGED);
        // Copied as CHANGED, it is not written again.
        look(clear(b), 12, 0).x.poke(900, page);
        write(b, 12, 8).word("CHANGED when it was copied", 900, page);
        // CHANGED in memory alone, the copy is not, until a word is written.
        look(clear(b), 12, 0).x.poke(900, page | Words.CHANGED);
        write(b, 12, 9).word("CHANGED in memory", 900, page | Words.CHANGED).x.poke(900, page);
        write(b, 12, 10).word("and in the copy", 900, page);
        // The page beside it, and a refused write.
        b.word("the page beside", 901, Words.THERE | 31);
        b.segment(13, Words.PAGED | Words.first(900, 4095), Words.second(0, 7, 7, Words.ALL, 0));
        b.code(Words.op(Words.STA, 1, 64)).pointTo(1, 13, 0, 1).at(1, 0, 0).run(1).fault("refused", 4, 13, 64);
        b.word("refused", 901, Words.THERE | 31);
        // A write through a segment that is not paged is no write of a page.
        b.x.go();
        b.segment(11, Words.first(64 * 31, 9), FREE);
        write(clear(b), 11, 0).word("the same frame, not as a page", 901, Words.THERE | 31);
        Bench c = bench().words(600, 1);
        look(c, 12, 0);
        write(c, 4, 5).word("BASE of a segment that is not paged", 600, 1).word("and the page", 900, page);
        write(c, 12, 5).word("the copy was not CHANGED by that", 900, page | Words.CHANGED);
    }

    /** "and the copy, ahead of that": what is written last stays, though it is the page's own word. */
    private static void changedAheadOfTheWord() {
        Bench b = bench();
        b.x.poke(900, Words.THERE | 14);
        b.x.set(Words.A, 77);
        // Frame 14 is words 896 .. 959.
        write(b, 12, 4).word("its own word", 900, 77);
        b.x.set(Words.A, 0);
        write(b, 12, 4).word("its own word again", 900, 0).noFault("the copy stands");
        write(b, 12, 5).word("another page's word", 901, 0).word("no more CHANGED", 900, 0);
    }

    /** "what is written into memory does not change them", by an instruction neither. */
    private static void writtenByInstructions() {
        Bench b = bench().segment(10, Words.first(0, 4095), FREE).words(600, 5).words(700, 6);
        look(b, 4, 0).register("by the descriptor", Words.A, 5);
        b.x.set(Words.A, Words.first(700, 0));
        write(b, 10, 8).word("written", 8, Words.first(700, 0));
        look(b, 4, 9).noFault("BOUND of the copy");
        look(b, 4, 0).register("by the copy", Words.A, 5);
        look(clear(b), 4, 0).register("by the new one", Words.A, 6);
        look(b, 4, 1).fault("BOUND of the new one", 3, 4, 1).x.go();
        Bench c = bench().segment(10, Words.first(0, 4095), FREE).words(64 * 30, 5).words(64 * 40, 6);
        look(c, 12, 0).register("by the page's word", Words.A, 5);
        c.x.set(Words.A, Words.THERE | 40);
        write(c, 10, 900).word("written", 900, Words.THERE | 40);
        look(c, 12, 0).register("by its copy", Words.A, 5);
        look(clear(c), 12, 0).register("by the new one", Words.A, 6);
    }

    /** "36 CLEAR: all copies go": of none, of some, of all. */
    private static void clearsAll() {
        for (int some = 0; some <= 5; some++) {
            Bench b = bench();
            for (int k = 0; k < some; k++) {
                look(b, 4 + k, 0);
                look(b, 12, 64 * k);
            }
            clear(b).copies("CLEAR", 0).copies("CLEAR", 1).noFault("CLEAR");
            b.code(0).at(1, 0, 0).run(1).copies("behind it", 0, 1).copies("behind it", 1);
        }
    }

    /** "Of copy k (0 .. 3 ...)": NONE "if there is none such, or for another what". */
    private static void whichCopyIsTold() {
        Bench b = bench();
        for (int some = 1; some <= 4; some++) {
            if (some > 1) {
                look(b, 2 + some, 0);
            } else {
                b.code(0).at(1, 0, 0).run(1);
            }
            Due.is("the last of " + some, b.x.copy(some - 1, 0) == -1 ? 1 : 0, 0);
            Due.is("behind the last of " + some, b.x.copy(some, 0), -1);
            Due.is("ahead of the first", b.x.copy(-1, 0), -1);
        }
        for (int what : new int[] {Integer.MIN_VALUE, -2, -1, 2, 3, Integer.MAX_VALUE}) {
            for (int k = -1; k <= 4; k++) {
                Due.is("copy(" + k + ", " + what + ")", b.x.copy(k, what), -1);
            }
        }
        for (int k : new int[] {Integer.MIN_VALUE, -1, 4, Integer.MAX_VALUE}) {
            Due.is("copy(" + k + ", 0)", b.x.copy(k, 0), -1);
            Due.is("copy(" + k + ", 1)", b.x.copy(k, 1), -1);
        }
    }

    /** "(Descriptors and pages' words as copies have them, else as memory; nothing is changed.)" Each with and without. */
    private static void reachByCopiesElseByMemory() {
        for (int copied = 0; copied < 4; copied++) {
            boolean hasDescriptor = (copied & 1) != 0;
            boolean hasPage = (copied & 2) != 0;
            Bench b = bench();
            look(b, 12, hasPage ? 0 : 64);
            for (int s = 4; s < 8 && !hasDescriptor; s++) {
                look(b, s, 0);
            }
            // Now memory says BASE 950 and BOUND 100, and page 0 has another frame, at either BASE.
            b.segment(12, Words.PAGED | Words.first(950, 100), FREE).words(900, Words.THERE | 50).words(950, Words.THERE | 51);
            Snapshot before = new Snapshot(b.x, new int[] {0, 32}, new int[] {900, 3}, new int[] {950, 3});
            String what = "copies " + copied;
            int frame = hasPage ? 30 : hasDescriptor ? 50 : 51;
            for (int way = 0; way < 3; way++) {
                Due.is(what, b.x.reach(12, 7, 7, way), 64 * frame + 7);
                Due.is(what + ", BOUND", b.x.reach(12, 128, 7, way), hasDescriptor ? 64 * 32 : -4);
            }
            before.stays(what);
        }
        RingProcessor x = new RingProcessor();
        Due.is("of nothing at all", x.reach(0, 0, 0, 0), -2);
    }
}
