/** The edges of memory, of frames, and of sums of addresses, "modulo 4096" ("Terms"). */
final class EdgesOfSumsTest {
    private static final long FREE = Words.second(7, 7, 7, Words.READ | Words.WRITE, 0);
    private static final int[][] PAIRS = {{0, 4095}, {1, 4094}, {1, 4095}, {4094, 1}, {4095, 0}, {4095, 1}, {4095, 4095}};

    public static void main(String[] args) {
        memoryHas4096();
        baseAndWord();
        baseAndPage();
        pagesAreOf64();
        framesAreOf64();
        pointerAndY();
        indexAndY();
        allThree();
        pointerAndIndirectWord();
        theNextWord();
        Due.end();
    }

    /** "MEMORY has 4096". */
    private static void memoryHas4096() {
        RingProcessor x = new RingProcessor();
        for (int address : new int[] {0, 1, 2047, 2048, 4094, 4095}) {
            x.poke(address, address + 1);
        }
        for (int address : new int[] {0, 1, 2047, 2048, 4094, 4095}) {
            Due.is("peek(" + address + ")", x.peek(address), address + 1);
        }
        for (int address : new int[] {-4096, -1, 4096, 8191}) {
            Due.outOfBounds("peek(" + address + ")", () -> x.peek(address));
            Due.outOfBounds("poke(" + address + ")", () -> x.poke(address, 9));
        }
        Due.is("peek(0) after all", x.peek(0), 1);
        Due.is("peek(4095) after all", x.peek(4095), 4096);
    }

    /** "is, if it is not paged, at BASE + w". */
    private static void baseAndWord() {
        for (int[] p : PAIRS) {
            for (int way = 0; way < 2; way++) {
                Bench b = new Bench().segment(6, Words.first(p[0], 4095), FREE);
                Ways.due("BASE " + p[0], b, 6, p[1], 7, way, (p[0] + p[1]) % 4096);
            }
        }
        Bench b = new Bench().segment(6, Words.first(4000, 4095), Words.second(2, 2, 2, Words.EXECUTE, 0));
        Ways.due("executed at the last", b, 6, 95, 2, 2, 4095);
        Ways.due("executed behind it", b, 6, 96, 2, 2, 0);
    }

    /** "its PAGE w / 64 has a word at BASE + w / 64". */
    private static void baseAndPage() {
        for (int base : new int[] {4030, 4031, 4032, 4033, 4060, 4095}) {
            for (int page : new int[] {0, 1, 62, 63}) {
                int at = (base + page) % 4096;
                Bench b = new Bench().segment(15, Words.PAGED | Words.first(base, 4095), FREE);
                b.x.poke(at, Words.THERE | 50);
                String what = "pages' words at " + base + ", page " + page;
                Ways.due(what, b, 15, 64 * page + 5, 0, 1, 64 * 50 + 5);
                b.word(what, at, Words.THERE | Words.USED | Words.CHANGED | 50).copies(what, 1, 64 * 15 + page);
            }
        }
    }

    /** "its PAGE w / 64", "word w modulo 64 of that frame". */
    private static void pagesAreOf64() {
        int[] words = {0, 63, 64, 127, 128, 4031, 4032, 4095};
        for (int w : words) {
            Bench b = new Bench().segment(6, Words.PAGED | Words.first(1000, 4095), FREE);
            for (int page = 0; page < 64; page++) {
                b.x.poke(1000 + page, Words.THERE | (page + 33) % 64);
            }
            Ways.due("word " + w, b, 6, w, 0, 0, (w / 64 + 33) % 64 * 64 + w % 64);
            b.copies("word " + w, 1, 64 * 6 + w / 64);
        }
    }

    /** "in 64 FRAMES of 64". */
    private static void framesAreOf64() {
        for (int frame : new int[] {0, 1, 31, 32, 62, 63}) {
            for (int w : new int[] {0, 40, 63}) {
                Bench b = new Bench();
                b.x.poke(Bench.PAGES, Words.THERE | frame);
                Due.is("frame " + frame, b.x.reach(3, w, 0, 0), 64 * frame + w);
                // Below are descriptors.
                if (64 * frame + w >= 32) {
                    Ways.due("frame " + frame, b, 3, w, 0, 1, 64 * frame + w);
                }
            }
        }
    }

    private static void found(String what, Bench b, int segment, int word) {
        b.run(1).register(what, Words.P + 1, Words.pointer(segment, word, 0)).noFault(what);
    }

    /** "those of Pn, to the word y added". */
    private static void pointerAndY() {
        for (int[] p : PAIRS) {
            Bench b = new Bench().code(Words.op(Words.EPP + 1, 0, p[0])).pointTo(0, 9, p[1], 0);
            found("P0 " + p[1] + " and y " + p[0], b, 9, (p[0] + p[1]) % 4096);
        }
    }

    /** "x 1 .. 3: Xx is added". */
    private static void indexAndY() {
        for (int x = 0; x < 4; x++) {
            for (int[] p : PAIRS) {
                Bench b = new Bench().code(Words.indexed(Words.op(Words.EPP + 1, p[0]), x));
                for (int k = 0; k < 4; k++) {
                    b.x.set(Words.X + k, k == x ? p[1] : 7);
                }
                found("X" + x + " " + p[1] + " and y " + p[0], b, 1, x == 0 ? p[0] : (p[0] + p[1]) % 4096);
            }
        }
    }

    private static void allThree() {
        for (int[] p : PAIRS) {
            for (int y : new int[] {0, 1, 4095}) {
                Bench b = new Bench().code(Words.indexed(Words.op(Words.EPP + 1, 3, y), 3)).pointTo(3, 8, p[0], 0);
                b.x.set(Words.X + 3, p[1]);
                found("P3 " + p[0] + ", y " + y + ", X3 " + p[1], b, 8, (p[0] + p[1] + y) % 4096);
            }
        }
    }

    /** "segment and word of the pointer of its number, with its word added". */
    private static void pointerAndIndirectWord() {
        for (int[] p : PAIRS) {
            Bench b = new Bench().code(Words.indirect(Words.op(Words.EPP + 1, 9))).pointTo(2, 7, p[0], 0);
            b.x.poke(Bench.CODE + 9, Words.number(Words.kind(2, 0, p[1], 0), 2));
            found("kind 2 of P2 " + p[0] + " and " + p[1], b, 7, (p[0] + p[1]) % 4096);
        }
    }

    /** "The counter's word is one more then (modulo 4096)", and P0 of CALL "the next word". */
    private static void theNextWord() {
        long[] plain = {0, Words.op(Words.EAA, 5), Words.op(Words.TNZ, 5), Words.op(Words.EXQ, 0), Words.op(Words.CLEAR, 0),
            Words.op(Words.STOP, 0), Words.op(Words.LDQ, 2, 0), Words.op(Words.AOS, 2, 0)};
        for (int word : new int[] {0, 4094, 4095}) {
            for (long instruction : plain) {
                Bench b = last(word, instruction);
                b.run(1).counter("behind " + word, 1, (word + 1) % 4096, 0);
            }
            last(word, Words.op(Words.CALL, 33)).run(1).register("CALL at " + word, Words.P, Words.pointer(1, (word + 1) % 4096, 0));
        }
    }

    private static Bench last(int word, long instruction) {
        Bench b = new Bench().segment(1, Words.first(Bench.CODE, 4095), Words.second(0, 0, 0, Words.ALL, 0));
        b.x.poke((Bench.CODE + word) % 4096, instruction);
        return b.at(1, word, 0);
    }
}
