/** The edges of TO REACH: each fault, in each way, and which of two comes first; by reach() and by instructions. */
final class EdgesOfReachTest {
    private static final int BASE = 2000;
    private static final int[] ACCESS = {Words.READ, Words.WRITE, Words.EXECUTE};

    public static void main(String[] args) {
        notThere();
        aboveBound();
        boundOfPages();
        notThatAccess();
        toRead();
        toWrite();
        toExecute();
        pageNotThere();
        whichComesFirst();
        segments0To15();
        Due.end();
    }

    private static Bench six(long first, long second) {
        return new Bench().segment(6, first, second);
    }

    /** "FAULT 1: the descriptor is not THERE". */
    private static void notThere() {
        for (int way = 0; way < 3; way++) {
            long second = Words.second(3, 3, 3, Words.ALL, 0);
            Ways.due("not THERE", six(Words.TOP ^ Words.THERE, second), 6, 0, 3, way, -2);
            Ways.due("0", six(0, second), 6, 0, 3, way, -2);
            Ways.due("THERE alone", six(Words.THERE | BASE, second), 6, 0, 3, way, BASE);
        }
    }

    /** "3: w is above BOUND". */
    private static void aboveBound() {
        for (int bound : new int[] {0, 1, 63, 64, 2047, 2048, 4094, 4095}) {
            for (int way = 0; way < 3; way++) {
                for (int word : new int[] {0, bound - 1, bound, bound + 1, 4095}) {
                    if (word >= 0 && word < 4096) {
                        Bench b = six(Words.first(BASE, bound), Words.second(3, 3, 3, Words.ALL, 0));
                        Ways.due("BOUND " + bound, b, 6, word, 3, way, word <= bound ? (BASE + word) % 4096 : -4);
                    }
                }
            }
        }
    }

    /** BOUND is of words, within a page too. */
    private static void boundOfPages() {
        for (int bound : new int[] {0, 62, 63, 64, 65}) {
            for (int word : new int[] {0, 62, 63, 64, 65, 66, 127, 128}) {
                Bench b = six(Words.PAGED | Words.first(Bench.PAGES, bound), Words.second(3, 3, 3, Words.ALL, 0));
                Ways.due("paged, BOUND " + bound, b, 6, word, 3, 0, word <= bound ? Bench.FRAMES + word : -4);
            }
        }
    }

    /** "to read: not READ", "to write: not WRITTEN", "to execute: not EXECUTED", whatever else it may be. */
    private static void notThatAccess() {
        for (int way = 0; way < 3; way++) {
            for (int access = 0; access <= Words.ALL; access += Words.READ) {
                Bench b = six(Words.first(BASE, 0), Words.second(3, 3, 3, access, 0));
                Ways.due("access " + access, b, 6, 0, 3, way, (access & ACCESS[way]) != 0 ? BASE : -5);
            }
        }
    }

    private static void brackets(String what, int r1, int r2, int ring, int way, boolean isGranted) {
        // R3 and GATES are of calls alone.
        for (int r3 : new int[] {0, 7}) {
            Bench b = six(Words.first(BASE, 0), Words.second(r1, r2, r3, ACCESS[way], 4095));
            Ways.due(what + " of R1 " + r1 + ", R2 " + r2, b, 6, 0, ring, way, isGranted ? BASE : -5);
        }
    }

    /** "the ring above R2", whatever R1 is. */
    private static void toRead() {
        for (int r1 = 0; r1 < 8; r1++) {
            for (int r2 = 0; r2 < 8; r2++) {
                for (int ring = 0; ring < 8; ring++) {
                    brackets("to read", r1, r2, ring, 0, ring <= r2);
                }
            }
        }
    }

    /** "the ring above R1", whatever R2 is. */
    private static void toWrite() {
        for (int r1 = 0; r1 < 8; r1++) {
            for (int r2 = 0; r2 < 8; r2++) {
                for (int ring = 0; ring < 8; ring++) {
                    brackets("to write", r1, r2, ring, 1, ring <= r1);
                }
            }
        }
    }

    /** "the ring not R1 .. R2"; with R1 above R2 there is none. */
    private static void toExecute() {
        for (int r1 = 0; r1 < 8; r1++) {
            for (int r2 = 0; r2 < 8; r2++) {
                for (int ring = 0; ring < 8; ring++) {
                    brackets("to execute", r1, r2, ring, 2, r1 <= ring && ring <= r2);
                }
            }
        }
    }

    /** "2: paged, and the page's word is not THERE". */
    private static void pageNotThere() {
        for (int way = 0; way < 3; way++) {
            for (int page = 0; page < 4; page++) {
                Bench b = six(Words.PAGED | Words.first(Bench.PAGES, 255), Words.second(3, 3, 3, Words.ALL, 0));
                b.x.poke(Bench.PAGES + page, Words.TOP ^ Words.THERE);
                Ways.due("page " + page, b, 6, 64 * page + 63, 3, way, -3);
                b.word("it is as it was", Bench.PAGES + page, Words.TOP ^ Words.THERE).copies("none", 1);
                Due.is("the page behind", b.x.reach(6, 64 * ((page + 1) % 4), 3, way), Bench.FRAMES + 64 * ((page + 1) % 4));
            }
            // Of a segment that is not paged no page's word is asked for.
            Ways.due("not paged", six(Words.first(Bench.PAGES, 255), Words.second(3, 3, 3, Words.ALL, 0)), 6, 9, 3, way, 137);
        }
    }

    /** "the first that holds": 1, 3, 4, 2. Each set of reasons, as bits: 1, 3, 4, 2 from the lowest. */
    private static void whichComesFirst() {
        int[] faults = {1, 3, 4, 2};
        for (int reasons = 1; reasons < 16; reasons++) {
            for (int way = 0; way < 3; way++) {
                long first = Words.PAGED | Words.first(Bench.PAGES, (reasons & 2) != 0 ? 69 : 70);
                first ^= (reasons & 1) != 0 ? Words.THERE : 0;
                long byAccess = Words.second(3, 3, 3, (reasons & 4) != 0 ? Words.ALL ^ ACCESS[way] : Words.ALL, 0);
                int ring = (reasons & 4) != 0 ? 4 : 3;
                int want = -1 - faults[Integer.numberOfTrailingZeros(reasons)];
                Ways.due("reasons " + reasons, missing(six(first, byAccess), reasons), 6, 70, 3, way, want);
                long all = Words.second(3, 3, 3, Words.ALL, 0);
                Ways.due("reasons " + reasons, missing(six(first, all), reasons), 6, 70, ring, way, want);
            }
        }
    }

    private static Bench missing(Bench b, int reasons) {
        b.x.poke(Bench.PAGES + 1, (reasons & 8) != 0 ? 21 : Words.THERE | 21);
        return b;
    }

    /** "SEGMENTS 0 .. 15: the DESCRIPTOR of segment s is the words at 2 * s and 2 * s + 1". */
    private static void segments0To15() {
        for (int s = 0; s < 16; s++) {
            if (s == 1) {
                continue;
            }
            Bench b = new Bench().segment(s, Words.first(BASE + s, 0), Words.second(3, 3, 3, Words.ALL, 0));
            Ways.due("segment " + s, b, s, 0, 3, 0, BASE + s);
            b.copies("segment " + s, 0, s, 1);
        }
        RingProcessor x = new RingProcessor();
        x.poke(30, Words.first(BASE, 0));
        Due.is("the last, of no access", x.reach(15, 0, 0, 0), -5);
        x.poke(31, Words.READ);
        Due.is("the last", x.reach(15, 0, 0, 0), BASE);
        x.poke(32, Words.first(BASE, 0));
        x.poke(33, Words.READ);
        Due.outOfBounds("segment 16", () -> x.reach(16, 0, 0, 0));
        Due.outOfBounds("segment -1", () -> x.reach(-1, 0, 0, 0));
    }
}
