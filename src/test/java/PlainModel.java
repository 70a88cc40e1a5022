import java.math.BigInteger;
import java.util.ArrayList;
import java.util.LinkedHashMap;
import java.util.List;
import java.util.Map;

/**
 * The document once more, in another way: a fault is thrown, and all is put back from a record of what was before;
 * copies are maps in the order of their use; sums are of BigIntegers.
 */
final class PlainModel {
    private static final BigInteger TWO_36 = BigInteger.ONE.shiftLeft(36);

    long[] memory = new long[4096];
    long[] registers = new long[11];
    final Map<Integer, long[]> descriptors = new LinkedHashMap<>(16, 0.75f, true);
    final Map<Integer, Long> pageWords = new LinkedHashMap<>(16, 0.75f, true);
    boolean stopped;
    boolean handles;
    int fault;
    int faultSegment;
    int faultWord;
    long saved;
    int asked;

    private int segment;
    private int word;
    private int ring;

    private static final class Fault extends RuntimeException {
        private static final long serialVersionUID = 1L;
        final int number;
        final int segment;
        final int word;

        Fault(int number, int segment, int word) {
            super(null, null, false, false);
            this.number = number;
            this.segment = segment;
            this.word = word;
        }
    }

    PlainModel() {
        for (int k = 6; k <= 10; k++) {
            registers[k] = 1L << 33;
        }
    }

    static int bits(long w, int from, int to) {
        return BigInteger.valueOf(w).shiftRight(from).mod(BigInteger.ONE.shiftLeft(to - from + 1)).intValue();
    }

    static long pointerWord(int segment, int word, int ring) {
        return 8589934592L + 16777216L * segment + 2097152L * ring + word;
    }

    void set(int k, long v) {
        if (k < 2) {
            registers[k] = BigInteger.valueOf(v).mod(TWO_36).longValue();
        } else if (k < 6) {
            registers[k] = Math.floorMod(v, 4096);
        } else {
            registers[k] = pointerWord(bits(v, 24, 27), bits(v, 0, 11), bits(v, 21, 23));
        }
    }

    int run(int n) {
        int done = 0;
        while (done < n && !stopped) {
            step();
            done++;
        }
        return done;
    }

    private int counterSegment() {
        return bits(registers[10], 24, 27);
    }

    private int counterWord() {
        return bits(registers[10], 0, 11);
    }

    private int theRing() {
        return bits(registers[10], 21, 23);
    }

    private void step() {
        if (!handles && asked != 0) {
            int k = 0;
            while (bits(asked, k, k) == 0) {
                k++;
            }
            asked -= 1 << k;
            save(new Fault(8 + k, counterSegment(), counterWord()));
            return;
        }
        long[] before = registers.clone();
        boolean handled = handles;
        try {
            instruction();
        } catch (Fault f) {
            registers = before;
            handles = handled;
            save(f);
        }
    }

    private void save(Fault f) {
        fault = f.number;
        faultSegment = f.segment;
        faultWord = f.word;
        if (handles) {
            stopped = true;
        } else {
            saved = registers[10];
            handles = true;
            registers[10] = pointerWord(0, 16 + f.number, 0);
        }
    }

    private Fault ofCounter(int number) {
        return new Fault(number, counterSegment(), counterWord());
    }

    private long[] descriptor(int s, boolean look) {
        if (descriptors.containsKey(s)) {
            return look ? descriptors.get(s) : withoutUse(descriptors, s);
        }
        long[] read = {memory[2 * s], memory[2 * s + 1]};
        if (look && bits(read[0], 35, 35) == 1) {
            makeRoom(descriptors);
            descriptors.put(s, read);
        }
        return read;
    }

    private long pageWord(int s, int page, int at, boolean look) {
        int name = 64 * s + page;
        if (pageWords.containsKey(name)) {
            return look ? pageWords.get(name) : withoutUse(pageWords, name);
        }
        long read = memory[at];
        if (look && bits(read, 35, 35) == 1) {
            memory[at] = withBit(memory[at], 34);
            makeRoom(pageWords);
            pageWords.put(name, memory[at]);
        }
        return read;
    }

    private static long withBit(long w, int bit) {
        return BigInteger.valueOf(w).setBit(bit).longValue();
    }

    private static <V> V withoutUse(Map<Integer, V> copies, int name) {
        for (Map.Entry<Integer, V> e : copies.entrySet()) {
            if (e.getKey() == name) {
                return e.getValue();
            }
        }
        return null;
    }

    private static <V> void makeRoom(Map<Integer, V> copies) {
        if (copies.size() == 4) {
            copies.remove(copies.keySet().iterator().next());
        }
    }

    static <V> int copy(Map<Integer, V> copies, int k) {
        List<Integer> names = new ArrayList<>(copies.keySet());
        return k < names.size() ? names.get(names.size() - 1 - k) : -1;
    }

    /** The address, or a fault is thrown. */
    private int place(int s, int w, int r, int way, boolean look) {
        long[] d = descriptor(s, look);
        if (bits(d[0], 35, 35) == 0) {
            throw new Fault(1, s, w);
        }
        if (w > bits(d[0], 12, 23)) {
            throw new Fault(3, s, w);
        }
        int lowest = way == 2 ? bits(d[1], 0, 2) : 0;
        int highest = way == 1 ? bits(d[1], 0, 2) : bits(d[1], 3, 5);
        if (bits(d[1], 9 + way, 9 + way) == 0 || r < lowest || r > highest) {
            throw new Fault(4, s, w);
        }
        int base = bits(d[0], 0, 11);
        if (bits(d[0], 34, 34) == 0) {
            return (base + w) % 4096;
        }
        long page = pageWord(s, w / 64, (base + w / 64) % 4096, look);
        if (bits(page, 35, 35) == 0) {
            throw new Fault(2, s, w);
        }
        return 64 * bits(page, 0, 5) + w % 64;
    }

    int reach(int s, int w, int r, int way) {
        try {
            return place(s, w, r, way, false);
        } catch (Fault f) {
            return -1 - f.number;
        }
    }

    private long read() {
        return memory[place(segment, word, ring, 0, true)];
    }

    private void write(long v) {
        int at = place(segment, word, ring, 1, true);
        long first = descriptor(segment, true)[0];
        int name = 64 * segment + word / 64;
        if (bits(first, 34, 34) == 1 && bits(pageWords.get(name), 33, 33) == 0) {
            int table = (bits(first, 0, 11) + word / 64) % 4096;
            memory[table] = withBit(memory[table], 33);
            pageWords.put(name, withBit(pageWords.get(name), 33));
        }
        memory[at] = BigInteger.valueOf(v).mod(TWO_36).longValue();
    }

    private void jump(int toSegment, int toWord, int toRing) {
        registers[10] = pointerWord(toSegment, toWord, toRing);
    }

    private void next() {
        jump(counterSegment(), (counterWord() + 1) % 4096, theRing());
    }

    private void instruction() {
        long i = memory[place(counterSegment(), counterWord(), theRing(), 2, true)];
        int what = bits(i, 30, 35);
        if (what == 0) {
            next();
        } else if (what == 33) {
            long old = registers[0];
            registers[0] = registers[1];
            registers[1] = old;
            next();
        } else if (what > 38) {
            throw ofCounter(6);
        } else if (what > 35) {
            ofRing0(what);
        } else {
            address(i);
            withAddress(what);
        }
    }

    private void ofRing0(int what) {
        if (theRing() > 0) {
            throw ofCounter(7);
        }
        if (what == 37) {
            if (!handles) {
                throw ofCounter(6);
            }
            handles = false;
            registers[10] = saved;
            return;
        }
        if (what == 36) {
            descriptors.clear();
            pageWords.clear();
        }
        stopped = what == 38;
        next();
    }

    private void toPointer(long p, int more) {
        segment = bits(p, 24, 27);
        word = (bits(p, 0, 11) + more) % 4096;
        ring = Math.max(ring, bits(p, 21, 23));
    }

    private void address(long i) {
        segment = counterSegment();
        word = bits(i, 0, 11);
        ring = theRing();
        if (bits(i, 29, 29) == 1) {
            toPointer(registers[6 + bits(i, 27, 28)], word);
        }
        if (bits(i, 24, 25) > 0) {
            word = (int) (word + registers[2 + bits(i, 24, 25)]) % 4096;
        }
        boolean on = bits(i, 26, 26) == 1;
        int count = 0;
        while (on) {
            if (++count == 6) {
                throw ofCounter(6);
            }
            long w = read();
            ring = Math.max(ring, bits(descriptor(segment, true)[1], 0, 2));
            switch (bits(w, 33, 35)) {
                case 0 -> word = bits(w, 0, 11);
                case 1 -> toPointer(w, 0);
                case 2 -> toPointer(registers[6 + bits(w, 18, 19)], bits(w, 0, 11));
                default -> throw ofCounter(6);
            }
            on = bits(w, 20, 20) == 1;
        }
    }

    private void withAddress(int what) {
        long a = registers[0];
        switch (what) {
            case 1, 3, 4, 5, 6, 7, 8 -> registers[0] = result(what, BigInteger.valueOf(a), BigInteger.valueOf(read()));
            case 2 -> write(a);
            case 9 -> registers[1] = read();
            case 10 -> write(registers[1]);
            case 11 -> write(read() + 1);
            case 12, 13, 14, 15 -> registers[2 + what - 12] = read() % 4096;
            case 16, 17, 18, 19 -> write(registers[2 + what - 16]);
            case 24, 25, 26, 27 -> registers[6 + what - 24] = pointerWord(segment, word, ring);
            case 28, 29, 30, 31 -> write(registers[6 + what - 28]);
            case 32 -> registers[0] = word;
            default -> {
                withCounter(what, a);
                return;
            }
        }
        next();
    }

    private static long result(int what, BigInteger a, BigInteger w) {
        BigInteger all = switch (what) {
            case 3 -> a.add(w);
            case 4 -> a.subtract(w);
            case 5 -> a.multiply(w);
            case 6 -> a.and(w);
            case 7 -> a.or(w);
            case 8 -> a.xor(w);
            default -> w;
        };
        return all.mod(TWO_36).longValue();
    }

    private void withCounter(int what, long a) {
        if (what == 34) {
            call();
        } else if (what == 35) {
            long w = read();
            if (bits(w, 33, 35) != 1) {
                throw ofCounter(6);
            }
            jump(bits(w, 24, 27), bits(w, 0, 11), Math.max(theRing(), Math.max(ring, bits(w, 21, 23))));
        } else if (what == 20 || what == 21 && a == 0 || what == 22 && a != 0 || what == 23 && bits(a, 35, 35) == 1) {
            if (ring != theRing()) {
                throw ofCounter(5);
            }
            jump(segment, word, ring);
        } else {
            next();
        }
    }

    private void call() {
        long[] d = descriptor(segment, true);
        if (bits(d[0], 35, 35) == 0) {
            throw new Fault(1, segment, word);
        }
        if (bits(d[1], 11, 11) == 0) {
            throw new Fault(4, segment, word);
        }
        int r1 = bits(d[1], 0, 2);
        int r2 = bits(d[1], 3, 5);
        int then;
        if (r1 <= ring && ring <= r2) {
            then = ring;
        } else if (r2 < ring && ring <= bits(d[1], 6, 8) && word < bits(d[1], 12, 23)) {
            then = r2;
        } else {
            throw ofCounter(5);
        }
        registers[6] = pointerWord(counterSegment(), (counterWord() + 1) % 4096, theRing());
        jump(segment, word, then);
    }
}
