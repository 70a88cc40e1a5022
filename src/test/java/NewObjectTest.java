/** Promise 1. */
final class NewObjectTest {
    public static void main(String[] args) {
        allOfMemoryIs0();
        RingProcessor x = new RingProcessor();
        for (int k = 0; k < 6; k++) {
            Due.is("new: get(" + k + ")", x.get(k), 0);
        }
        for (int k = 6; k <= 10; k++) {
            Due.is("new: get(" + k + ")", x.get(k), 1L << 33);
        }
        for (int what = 0; what <= 5; what++) {
            Due.is("new: state(" + what + ")", x.state(what), 0);
        }
        Due.is("new: saved()", x.saved(), 0);
        for (int k = 0; k < 4; k++) {
            Due.is("new: copy(" + k + ", 0)", x.copy(k, 0), RingProcessor.NONE);
            Due.is("new: copy(" + k + ", 1)", x.copy(k, 1), RingProcessor.NONE);
        }
        for (int segment = 0; segment < 16; segment++) {
            Due.is("new: reach(" + segment + ", 0, 0, 0)", x.reach(segment, 0, 0, 0), -2);
        }
        twoObjectsShareNothing();
        firstRun();
        Due.end();
    }

    /** An object is used for 512 calls at most, so that eight tell of all. */
    private static void allOfMemoryIs0() {
        for (int part = 0; part < 8; part++) {
            RingProcessor x = new RingProcessor();
            for (int address = 512 * part; address < 512 * (part + 1); address++) {
                Due.is("new: peek(" + address + ")", x.peek(address), 0);
            }
        }
    }

    private static void twoObjectsShareNothing() {
        Bench one = new Bench();
        one.code(Words.op(Words.LDA, 7)).run(1);
        one.x.interrupt(2);
        RingProcessor other = new RingProcessor();
        Due.is("another: peek(0)", other.peek(0), 0);
        Due.is("another: copy(0, 0)", other.copy(0, 0), RingProcessor.NONE);
        Due.is("another: state(5)", other.state(5), 0);
        Due.is("another: get(10)", other.get(10), 1L << 33);
    }

    /** No segment is there, so that it stops by the fault of its fault's entry. */
    private static void firstRun() {
        RingProcessor x = new RingProcessor();
        Due.is("new: run(100)", x.run(100), 2);
        Due.is("stopped", x.state(0), 1);
        Due.is("handles", x.state(1), 1);
        Due.is("fault", x.state(2), 1);
        Due.is("its segment", x.state(3), 0);
        Due.is("its word", x.state(4), 17);
        Due.is("saved", x.saved(), 1L << 33);
    }
}
