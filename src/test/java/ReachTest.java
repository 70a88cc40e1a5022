/** Promise 12. */
final class ReachTest {
    public static void main(String[] args) {
        rings();
        accesses();
        places();
        order();
        copiesAndMemory();
        wrongArguments();
        Due.end();
    }

    private static void reaches(String what, Bench b, int word, int ring, int way, int want) {
        Due.is(what + ": reach(6, " + word + ", " + ring + ", " + way + ")", b.x.reach(6, word, ring, way), want);
    }

    private static Bench six(long first, long second) {
        return new Bench().segment(6, first, second);
    }

    private static void rings() {
        Bench b = six(Words.first(700, 9), Words.second(2, 5, 6, Words.ALL, 0));
        for (int ring = 0; ring < 8; ring++) {
            reaches("read", b, 3, ring, 0, ring <= 5 ? 703 : -5);
            reaches("write", b, 3, ring, 1, ring <= 2 ? 703 : -5);
            reaches("execute", b, 3, ring, 2, ring >= 2 && ring <= 5 ? 703 : -5);
        }
    }

    private static void accesses() {
        int[] needed = {Words.READ, Words.WRITE, Words.EXECUTE};
        for (int way = 0; way < 3; way++) {
            for (int access = 0; access <= Words.ALL; access += Words.READ) {
                Bench b = six(Words.first(700, 9), Words.second(1, 1, 1, access, 0));
                reaches("access " + access, b, 3, 1, way, (access & needed[way]) != 0 ? 703 : -5);
            }
        }
    }

    private static void places() {
        long all = Words.second(7, 7, 7, Words.ALL, 0);
        reaches("the first", six(Words.first(700, 9), all), 0, 0, 0, 700);
        reaches("at BOUND", six(Words.first(700, 9), all), 9, 0, 0, 709);
        reaches("above BOUND", six(Words.first(700, 9), all), 10, 0, 0, -4);
        reaches("BOUND 0", six(Words.first(700, 0), all), 0, 0, 0, 700);
        reaches("a sum", six(Words.first(4095, 4095), all), 4095, 7, 1, 4094);
        Bench b = six(Words.PAGED | Words.first(4000, 4095), all);
        for (int page = 0; page < 64; page++) {
            b.x.poke(4000 + page, Words.THERE | 63 - page);
            reaches("a page", b, 64 * page + page, 7, 0, 64 * (63 - page) + page);
        }
        b.x.poke(4001, Words.TOP ^ Words.THERE);
        reaches("no page", b, 64, 7, 0, -3);
        reaches("the page ahead", b, 63, 7, 0, 64 * 63 + 63);
        // The table goes round the end of memory, to a descriptor's word.
        Bench c = six(Words.PAGED | Words.first(4094, 4095), all);
        c.x.poke(0, Words.THERE | 5);
        reaches("a table round the end", c, 129, 7, 0, 321);
    }

    /** Each mends the fault that came first. */
    private static void order() {
        reaches("1", six(Words.PAGED | 4L << 12 | 3000, 0), 5, 7, 0, -2);
        reaches("3", six(Words.PAGED | Words.first(3000, 4), 0), 5, 7, 0, -4);
        reaches("4", six(Words.PAGED | Words.first(3000, 5), 0), 5, 7, 0, -5);
        reaches("2", six(Words.PAGED | Words.first(3000, 5), Words.second(7, 7, 7, Words.READ, 0)), 5, 7, 0, -3);
    }

    private static void copiesAndMemory() {
        Bench b = new Bench();
        Due.is("by memory", b.x.reach(3, 65, 0, 0), Bench.FRAMES + 65);
        b.copies("nothing is changed", 0).copies("nothing is changed", 1);
        b.word("nothing is USED", Bench.PAGES + 1, Words.THERE | 21);
        Due.is("to write", b.x.reach(3, 65, 0, 1), Bench.FRAMES + 65);
        b.word("nothing is CHANGED", Bench.PAGES + 1, Words.THERE | 21);
        b.code(Words.op(Words.LDA, 3, 65)).run(1).segment(3, 0, 0).x.poke(Bench.PAGES + 1, 0);
        Due.is("by copies", b.x.reach(3, 65, 0, 0), Bench.FRAMES + 65);
        Due.is("by the copy and memory", b.x.reach(3, 5, 0, 0), Bench.FRAMES + 5);
        b.copies("no use", 0, 3, 1).x.reach(1, 0, 0, 0);
        b.copies("no use", 0, 3, 1).noFault("reach is no fault");
        b.counter("reach", 1, 1, 0);
        Due.is("a segment of no copy", b.x.reach(9, 5, 0, 0), -2);
        b.noFault("reach is no fault");
    }

    private static void wrongArguments() {
        RingProcessor x = new Bench().x;
        for (int wrong : new int[] {-1, 16, Integer.MIN_VALUE, Integer.MAX_VALUE}) {
            Due.outOfBounds("segment " + wrong, () -> x.reach(wrong, 0, 0, 0));
        }
        for (int wrong : new int[] {-1, 4096, Integer.MIN_VALUE, Integer.MAX_VALUE}) {
            Due.illegal("word " + wrong, () -> x.reach(1, wrong, 0, 0));
        }
        for (int wrong : new int[] {-1, 8, Integer.MIN_VALUE, Integer.MAX_VALUE}) {
            Due.illegal("ring " + wrong, () -> x.reach(1, 0, wrong, 0));
        }
        for (int wrong : new int[] {-1, 3, Integer.MIN_VALUE, Integer.MAX_VALUE}) {
            Due.illegal("way " + wrong, () -> x.reach(1, 0, 0, wrong));
        }
        Due.is("the last of all", x.reach(15, 4095, 7, 2), -2);
    }
}
