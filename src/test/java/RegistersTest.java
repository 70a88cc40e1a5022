/** Promises 4 and 5. */
final class RegistersTest {
    public static void main(String[] args) {
        for (int k = 0; k < 2; k++) {
            becomes(k, 5, 5);
            becomes(k, Words.TOP, Words.TOP);
            becomes(k, 1L << 36, 0);
            becomes(k, (3L << 36) + 9, 9);
            becomes(k, -1, Words.TOP);
            becomes(k, Long.MIN_VALUE, 0);
        }
        for (int k = 2; k <= 5; k++) {
            becomes(k, 7, 7);
            becomes(k, 4095, 4095);
            becomes(k, 4096, 0);
            becomes(k, 4099, 3);
            becomes(k, -1, 4095);
            becomes(k, Long.MAX_VALUE, 4095);
        }
        for (int k = 6; k <= 10; k++) {
            becomes(k, Words.pointer(3, 77, 5), Words.pointer(3, 77, 5));
            becomes(k, Words.pointer(15, 4095, 7), Words.pointer(15, 4095, 7));
            becomes(k, 0, 1L << 33);
            // The kind, the number and whether it goes on are not of a register.
            becomes(k, Words.kind(6, 9, 1, 2), Words.pointer(9, 1, 2));
            becomes(k, Words.goesOn(Words.number(Words.pointer(1, 2, 3), 3)), Words.pointer(1, 2, 3));
            becomes(k, -1, Words.pointer(15, 4095, 7));
            // Bits of no meaning: 12 to 17 and 28 to 32.
            becomes(k, 63L << 12 | 31L << 28, 1L << 33);
        }
        eachIsItsOwn();
        theCountersRingIsTheRing();
        wrongRegisters();
        Due.end();
    }

    private static void becomes(int k, long v, long want) {
        RingProcessor x = new RingProcessor();
        x.set(k, v);
        Due.is("get(" + k + ") after set of " + v, x.get(k), want);
    }

    private static void eachIsItsOwn() {
        RingProcessor x = new RingProcessor();
        for (int k = 0; k <= 10; k++) {
            x.set(k, Words.pointer(k, 100 + k, k % 8));
        }
        for (int k = 0; k <= 10; k++) {
            long want = k >= 2 && k <= 5 ? 100 + k : Words.pointer(k, 100 + k, k % 8);
            Due.is("get(" + k + ") of all", x.get(k), want);
        }
    }

    private static void theCountersRingIsTheRing() {
        new Bench().code(Words.op(Words.STOP, 0)).at(1, 0, 3).run(1).fault("STOP in ring 3", 7, 1, 0);
        new Bench().code(Words.op(Words.STOP, 0)).at(1, 0, 3).at(1, 0, 0).run(1).noFault("STOP in ring 0");
    }

    private static void wrongRegisters() {
        RingProcessor x = new RingProcessor();
        for (int k : new int[] {-1, 11, 12, Integer.MIN_VALUE, Integer.MAX_VALUE}) {
            Due.outOfBounds("set(" + k + ", 1)", () -> x.set(k, 1));
            Due.outOfBounds("get(" + k + ")", () -> x.get(k));
        }
    }
}
