/** Promises 2 and 3. */
final class MemoryTest {
    public static void main(String[] args) {
        allOfMemory();
        RingProcessor x = new RingProcessor();
        x.poke(101, 304);
        pokedAs(x, 0, 0, 0);
        pokedAs(x, 4095, Words.TOP, Words.TOP);
        pokedAs(x, 100, 1L << 36, 0);
        pokedAs(x, 100, (1L << 36) + 5, 5);
        pokedAs(x, 100, -1, Words.TOP);
        pokedAs(x, 100, Long.MIN_VALUE, 0);
        pokedAs(x, 100, Long.MAX_VALUE, Words.TOP);
        Due.is("the one beside", x.peek(101), 304);
        for (int address : new int[] {-1, 4096, 5000, Integer.MIN_VALUE, Integer.MAX_VALUE}) {
            Due.outOfBounds("poke(" + address + ", 1)", () -> x.poke(address, 1));
            Due.outOfBounds("peek(" + address + ")", () -> x.peek(address));
        }
        Due.is("peek(0) after wrong pokes", x.peek(0), 0);
        Due.is("peek(4095) after wrong pokes", x.peek(4095), Words.TOP);
        Due.end();
    }

    /** An object is used for 512 calls at most: sixteen, of 256 words each that stand far from one another. */
    private static void allOfMemory() {
        for (int part = 0; part < 16; part++) {
            RingProcessor x = new RingProcessor();
            for (int address = part; address < 4096; address += 16) {
                x.poke(address, 3L * address + 1);
            }
            for (int address = part; address < 4096; address += 16) {
                Due.is("peek(" + address + ")", x.peek(address), 3L * address + 1);
            }
        }
        // And no word beside it.
        for (int address = 1; address < 4095; address += 31) {
            RingProcessor x = new RingProcessor();
            x.poke(address, 7);
            Due.is("the word ahead of " + address, x.peek(address - 1), 0);
            Due.is("the word behind " + address, x.peek(address + 1), 0);
        }
    }

    private static void pokedAs(RingProcessor x, int address, long v, long want) {
        x.poke(address, v);
        Due.is("peek(" + address + ") after poke of " + v, x.peek(address), want);
    }
}
