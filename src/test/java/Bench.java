/**
 * A processor with segments to work on. 0: BASE 64, BOUND 127, ring 0 alone. 1: BASE 256, BOUND 255, to be
 * executed in rings 0 .. 4, calls from ring 6 through 3 gates. 2: BASE 512, BOUND 255, written in rings 0 .. 4,
 * read in 0 .. 5. 3: paged, its pages' words at 128 .. 131, of frames 20 .. 23, BOUND 255, rings 0 .. 5.
 */
final class Bench {
    static final int CODE = 256, DATA = 512, PAGES = 128, FRAMES = 1280;
    final RingProcessor x = new RingProcessor();

    Bench() {
        segment(0, Words.first(64, 127), Words.second(0, 0, 0, Words.ALL, 0));
        segment(1, Words.first(CODE, 255), Words.second(0, 4, 6, Words.ALL, 3));
        segment(2, Words.first(DATA, 255), Words.second(4, 5, 5, Words.READ | Words.WRITE, 0));
        segment(3, Words.PAGED | Words.first(PAGES, 255), Words.second(4, 5, 5, Words.ALL, 0));
        for (int page = 0; page < 4; page++) {
            x.poke(PAGES + page, Words.THERE | 20 + page);
        }
        at(1, 0, 0);
        pointTo(2, 2, 0, 0);
        pointTo(3, 3, 0, 0);
    }

    Bench segment(int s, long first, long second) {
        x.poke(2 * s, first);
        x.poke(2 * s + 1, second);
        return this;
    }

    Bench at(int segment, int word, int ring) {
        x.set(Words.COUNTER, Words.pointer(segment, word, ring));
        return this;
    }

    Bench pointTo(int n, int segment, int word, int ring) {
        x.set(Words.P + n, Words.pointer(segment, word, ring));
        return this;
    }

    /** Words of segment 1, from word 0. */
    Bench code(long... words) {
        return words(CODE, words);
    }

    /** Words of segment 2, from word 0. */
    Bench data(long... words) {
        return words(DATA, words);
    }

    Bench words(int address, long... words) {
        for (int k = 0; k < words.length; k++) {
            x.poke(address + k, words[k]);
        }
        return this;
    }

    Bench run(int n) {
        Due.is("run(" + n + ")", x.run(n), n);
        return this;
    }

    Bench register(String what, int k, long want) {
        Due.is(what + ": get(" + k + ")", x.get(k), want);
        return this;
    }

    Bench counter(String what, int segment, int word, int ring) {
        return register(what, Words.COUNTER, Words.pointer(segment, word, ring));
    }

    Bench word(String what, int address, long want) {
        Due.is(what + ": peek(" + address + ")", x.peek(address), want);
        return this;
    }

    /** A fault was SAVED, and the processor stands at its entry. */
    Bench fault(String what, int fault, int segment, int word) {
        Due.is(what + ": handles", x.state(1), 1);
        told(what, fault, segment, word);
        return counter(what, 0, 16 + fault, 0);
    }

    Bench told(String what, int fault, int segment, int word) {
        Due.is(what + ": fault", x.state(2), fault);
        Due.is(what + ": its segment", x.state(3), segment);
        Due.is(what + ": its word", x.state(4), word);
        return this;
    }

    Bench noFault(String what) {
        Due.is(what + ": fault", x.state(2), 0);
        Due.is(what + ": handles", x.state(1), 0);
        return this;
    }

    /** The copies of descriptors (0) or pages' words (1), latest first, and none behind them. */
    Bench copies(String what, int kind, int... names) {
        for (int k = 0; k < 4; k++) {
            Due.is(what + ": copy(" + k + ", " + kind + ")", x.copy(k, kind), k < names.length ? names[k] : -1);
        }
        return this;
    }
}
