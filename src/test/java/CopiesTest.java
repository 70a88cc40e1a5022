/** Promises 6 and 11: copies. */
final class CopiesTest {
    public static void main(String[] args) {
        descriptorsInOrder();
        pagesInOrder();
        notThereNotCopied();
        theFifthTakesAPlace();
        copiesStay();
        usedAndChanged();
        pagesThatHoldTheirWord();
        oneTableOfTwoSegments();
        baseMovedUnderACopy();
        otherCopies();
        Due.end();
    }

    /** LDA of word 0 of a segment, by P1, from segment 1. */
    private static Bench look(Bench b, int segment, int word) {
        return b.code(Words.op(Words.LDA, 1, 0)).pointTo(1, segment, word, 0).at(1, 0, 0).run(1);
    }

    private static void descriptorsInOrder() {
        Bench b = new Bench();
        for (int s = 4; s < 9; s++) {
            b.segment(s, Words.first(600, 9), Words.second(7, 7, 7, Words.ALL, 0));
        }
        look(b, 2, 0).copies("two", 0, 2, 1);
        look(b, 4, 0).copies("three", 0, 4, 1, 2);
        look(b, 5, 0).copies("four", 0, 5, 1, 4, 2);
        look(b, 2, 0).copies("one of them", 0, 2, 1, 5, 4);
        look(b, 6, 0).copies("4 goes", 0, 6, 1, 2, 5);
        look(b, 5, 0).copies("5 is used", 0, 5, 1, 6, 2);
        look(b, 7, 0).copies("2 goes", 0, 7, 1, 5, 6);
        look(b, 1, 0).copies("its own", 0, 1, 7, 5, 6);
        // A fault behind the look leaves the copy.
        look(b, 8, 10).fault("above BOUND", 3, 8, 10).copies("8 was looked for", 0, 8, 1, 7, 5);
        b.x.reach(6, 0, 0, 0);
        b.copies("reach is no look", 0, 8, 1, 7, 5);
    }

    private static void pagesInOrder() {
        Bench b = new Bench();
        b.segment(4, Words.PAGED | Words.first(Bench.PAGES, 4095), Words.second(7, 7, 7, Words.ALL, 0));
        look(b, 3, 0).copies("one", 1, 192);
        look(b, 3, 64).copies("two", 1, 193, 192);
        look(b, 4, 0).copies("three", 1, 256, 193, 192);
        look(b, 4, 191).copies("four", 1, 258, 256, 193, 192);
        look(b, 3, 63).copies("one of them", 1, 192, 258, 256, 193);
        look(b, 3, 255).copies("193 goes", 1, 195, 192, 258, 256);
        look(b, 4, 64).copies("256 goes", 1, 257, 195, 192, 258);
        look(b, 2, 0).copies("not paged", 1, 257, 195, 192, 258);
        look(b, 4, 64 * 4).fault("no page", 2, 4, 256).copies("no page", 1, 257, 195, 192, 258);
        b.copies("descriptors", 0, 4, 1, 2, 3);
    }

    private static void notThereNotCopied() {
        Bench b = new Bench();
        look(b, 9, 0).fault("no segment", 1, 9, 0).copies("no segment", 0, 1);
        b.segment(9, Words.first(Bench.DATA, 9), Words.second(7, 7, 7, Words.ALL, 0)).data(31).x.go();
        look(b, 9, 0).register("it is there now", Words.A, 31).copies("it is there now", 0, 9, 1);
        b.x.poke(Bench.PAGES, 20);
        look(b, 3, 0).fault("no page", 2, 3, 0).copies("no page", 1).word("not USED", Bench.PAGES, 20);
        b.x.poke(Bench.PAGES, Words.THERE | 20);
        b.x.poke(Bench.FRAMES, 32);
        b.x.go();
        look(b, 3, 0).register("it is there now", Words.A, 32).copies("it is there now", 1, 192);
    }

    /** The one used least lately is read again, and those used later are not. */
    private static void theFifthTakesAPlace() {
        Bench b = new Bench();
        for (int s = 4; s < 8; s++) {
            b.segment(s, Words.first(600, 9), Words.second(7, 7, 7, Words.ALL, 0));
        }
        for (int s = 4; s < 8; s++) {
            look(b, s, 0);
        }
        b.words(600, 5).words(700, 6);
        b.segment(4, Words.first(700, 9), Words.second(7, 7, 7, Words.ALL, 0));
        b.segment(5, Words.first(700, 9), Words.second(7, 7, 7, Words.ALL, 0));
        look(b, 5, 0).register("5 has its copy", Words.A, 5);
        look(b, 4, 0).register("4 has none", Words.A, 6);
        Bench c = new Bench();
        c.segment(4, Words.PAGED | Words.first(Bench.PAGES, 255), Words.second(7, 7, 7, Words.ALL, 0));
        for (int page = 0; page < 4; page++) {
            look(c, 3, 64 * page);
        }
        look(c, 4, 0);
        c.words(Bench.PAGES, Words.THERE | 30, Words.THERE | 31).words(64 * 30, 7).words(Bench.FRAMES + 64, 8);
        look(c, 3, 64).register("page 1 has its copy", Words.A, 8);
        look(c, 3, 0).register("page 0 has none", Words.A, 7);
    }

    private static void copiesStay() {
        Bench b = new Bench().data(5);
        b.x.poke(Bench.DATA + 100, 6);
        look(b, 2, 0).register("by the descriptor", Words.A, 5);
        b.segment(2, Words.first(Bench.DATA + 100, 0), Words.second(0, 0, 0, 0, 0));
        look(b, 2, 0).register("by the copy", Words.A, 5).noFault("by the copy");
        b.segment(2, 0, 0);
        look(b, 2, 0).register("by the copy still", Words.A, 5).noFault("by the copy");
        b.words(Bench.FRAMES, 7).words(Bench.FRAMES + 64, 8);
        look(b, 3, 0).register("by the page's word", Words.A, 7);
        b.x.poke(Bench.PAGES, Words.THERE | 21);
        look(b, 3, 0).register("by its copy", Words.A, 7).word("only poked", Bench.PAGES, Words.THERE | 21);
        b.segment(2, Words.first(Bench.DATA + 100, 0), Words.second(7, 7, 7, Words.ALL, 0));
        b.x.poke(64 + 40, Words.op(Words.CLEAR, 0));
        b.at(0, 40, 0).run(1);
        look(b, 2, 0).register("by the new descriptor", Words.A, 6);
        look(b, 3, 0).register("by the new page's word", Words.A, 8);
        b.word("USED", Bench.PAGES, Words.THERE | Words.USED | 21);
    }

    private static void usedAndChanged() {
        Bench b = new Bench().code(Words.op(Words.LDA, 3, 5), Words.op(Words.STA, 3, 6), Words.op(Words.AOS, 3, 70));
        long page = Words.THERE | Words.USED | 20;
        b.run(1).word("read", Bench.PAGES, page).word("not that one", Bench.PAGES + 1, Words.THERE | 21);
        b.x.set(Words.A, 12);
        b.run(1).word("written", Bench.PAGES, page | Words.CHANGED).word("the word", Bench.FRAMES + 6, 12);
        b.run(1).word("AOS", Bench.PAGES + 1, page + 1 | Words.CHANGED).word("the word", Bench.FRAMES + 70, 1);
        // The copies are USED and CHANGED, so that memory is not written again.
        b.words(Bench.PAGES, 1, 2).at(1, 0, 0).run(3);
        b.word("no more USED or CHANGED", Bench.PAGES, 1).word("no more USED or CHANGED", Bench.PAGES + 1, 2);
        b.word("AOS again", Bench.FRAMES + 70, 2);
        // A word that is CHANGED already when it is copied.
        Bench c = new Bench().code(Words.op(Words.LDA, 3, 5), Words.op(Words.STA, 3, 6));
        c.x.poke(Bench.PAGES, Words.THERE | Words.CHANGED | 20);
        c.run(1).word("USED too", Bench.PAGES, page | Words.CHANGED);
        c.x.poke(Bench.PAGES, 3);
        c.run(1).word("CHANGED already", Bench.PAGES, 3).word("written all the same", Bench.FRAMES + 6, c.x.get(Words.A));
        // Memory was poked between: only bit 33 is added.
        Bench d = new Bench().code(Words.op(Words.LDA, 3, 5), Words.op(Words.STA, 3, 6)).run(1);
        d.x.poke(Bench.PAGES, 9);
        d.run(1).word("CHANGED alone", Bench.PAGES, Words.CHANGED | 9);
        // Memory has the bits already, and keeps them.
        Bench g = new Bench().code(Words.op(Words.LDA, 3, 5), Words.op(Words.STA, 3, 6));
        g.x.poke(Bench.PAGES, page);
        g.run(1).word("USED already", Bench.PAGES, page);
        g.x.poke(Bench.PAGES, page | Words.CHANGED);
        g.run(1).word("CHANGED in memory already", Bench.PAGES, page | Words.CHANGED);
        // Refused writing changes nothing.
        Bench e = new Bench().code(Words.op(Words.STA, 3, 5)).pointTo(3, 3, 0, 5).run(1).fault("refused", 4, 3, 5);
        e.word("neither", Bench.PAGES, Words.THERE | 20).copies("none", 1);
        Bench f = new Bench().at(3, 64, 4).run(1).word("to execute", Bench.PAGES + 1, Words.THERE | Words.USED | 21);
        f.copies("to execute", 1, 193);
    }

    /** The page's word is a word of its own page: CHANGED comes ahead of what is written. */
    private static void pagesThatHoldTheirWord() {
        Bench b = own().code(Words.op(Words.STA, 3, 0));
        b.x.set(Words.A, 5);
        b.run(1).word("STA of its own page's word", Bench.PAGES, 5);
        Bench c = own().code(Words.op(Words.LDA, 3, 0)).run(1);
        c.register("LDA of its own page's word", Words.A, Words.THERE | Words.USED | 2);
        Bench d = own().code(Words.op(Words.AOS, 3, 0)).run(1);
        d.word("AOS of its own page's word", Bench.PAGES, Words.THERE | Words.USED | 3);
        Bench e = own().code(Words.op(Words.STA, 3, 1));
        e.run(1).word("STA of another", Bench.PAGES, Words.THERE | Words.USED | Words.CHANGED | 2);
    }

    private static Bench own() {
        Bench b = new Bench();
        b.x.poke(Bench.PAGES, Words.THERE | 2);
        return b;
    }

    private static void oneTableOfTwoSegments() {
        Bench b = new Bench().code(Words.op(Words.STA, 3, 0), Words.op(Words.LDA, 1, 0), Words.op(Words.STA, 1, 0));
        b.segment(4, Words.PAGED | Words.first(Bench.PAGES, 255), Words.second(7, 7, 7, Words.ALL, 0)).pointTo(1, 4, 0, 0);
        b.run(1);
        b.x.poke(Bench.PAGES, Words.THERE | 22);
        b.run(1).copies("each has its own", 1, 256, 192).word("USED again", Bench.PAGES, Words.THERE | Words.USED | 22);
        b.run(1).word("CHANGED again", Bench.PAGES, Words.THERE | Words.USED | Words.CHANGED | 22);
    }

    /** The page's copy outlives its descriptor's; memory's page's word is where BASE says now. */
    private static void baseMovedUnderACopy() {
        Bench b = new Bench();
        look(b, 3, 0);
        for (int s = 4; s < 8; s++) {
            b.segment(s, Words.first(600, 9), Words.second(7, 7, 7, Words.ALL, 0));
            look(b, s, 0);
        }
        b.segment(3, Words.PAGED | Words.first(4095, 255), Words.second(4, 5, 5, Words.ALL, 0));
        b.x.poke(4095, 40);
        b.code(Words.op(Words.STA, 3, 7)).at(1, 0, 0).run(1).noFault("by the page's copy");
        b.word("CHANGED where BASE says", 4095, Words.CHANGED | 40);
        b.word("not where it said", Bench.PAGES, Words.THERE | Words.USED | 20);
        b.word("the word", Bench.FRAMES + 7, b.x.get(Words.A));
    }

    private static void otherCopies() {
        RingProcessor x = look(new Bench(), 3, 0).x;
        Due.is("copy(0, 0)", x.copy(0, 0), 3);
        Due.is("copy(0, 1)", x.copy(0, 1), 192);
        for (int k : new int[] {-1, 4, 5, Integer.MIN_VALUE, Integer.MAX_VALUE}) {
            Due.is("copy(" + k + ", 0)", x.copy(k, 0), RingProcessor.NONE);
            Due.is("copy(" + k + ", 1)", x.copy(k, 1), RingProcessor.NONE);
        }
        for (int what : new int[] {-1, 2, 3, Integer.MIN_VALUE, Integer.MAX_VALUE}) {
            Due.is("copy(0, " + what + ")", x.copy(0, what), RingProcessor.NONE);
        }
    }
}
