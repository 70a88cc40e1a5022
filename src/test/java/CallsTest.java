/** Promise 6: CALL, with brackets and gates, and RTN. */
final class CallsTest {
    public static void main(String[] args) {
        brackets();
        oddBrackets();
        callsThatFault();
        whatCallChanges();
        returns();
        roundTrip();
        Due.end();
    }

    /** From segment 1, ring 0, to a segment 4 of brackets R1 .. R2, R3, through pointer P1 of a ring. */
    private static Bench call(int r1, int r2, int r3, int gates, int word, int ring) {
        Bench b = new Bench().code(0, 0, Words.op(Words.CALL, 1, 0)).at(1, 2, 0).pointTo(1, 4, word, ring);
        b.segment(4, Words.first(1024, 100), Words.second(r1, r2, r3, Words.EXECUTE, gates));
        return b.run(1);
    }

    private static void brackets() {
        for (int ring = 0; ring < 8; ring++) {
            String what = "CALL in ring " + ring;
            Bench b = call(2, 4, 6, 10, 9, ring);
            if (ring < 2 || ring > 6) {
                b.fault(what, 5, 1, 2).register(what, Words.P, Words.pointer(0, 0, 0));
            } else {
                b.noFault(what).counter(what, 4, 9, Math.min(ring, 4)).register(what, Words.P, Words.pointer(1, 3, 0));
            }
            Bench noGate = call(2, 4, 6, 9, 9, ring);
            if (ring < 2 || ring > 4) {
                noGate.fault(what + " beside the gates", 5, 1, 2);
            } else {
                noGate.counter(what + " needs no gate", 4, 9, ring);
            }
        }
        call(2, 4, 6, 0, 0, 5).fault("no gates", 5, 1, 2);
        call(2, 4, 6, 4095, 4094, 5).counter("many gates, above BOUND", 4, 4094, 4);
    }

    private static void oddBrackets() {
        // R1 above R2: no ring is between, but one above R2 and at most R3 goes through a gate.
        call(5, 2, 4, 9, 1, 3).counter("R1 above R2", 4, 1, 2);
        call(5, 2, 4, 9, 1, 5).fault("R1 above R2", 5, 1, 2);
        call(5, 2, 4, 9, 1, 2).fault("R1 above R2", 5, 1, 2);
        call(5, 2, 4, 9, 1, 1).fault("R1 above R2", 5, 1, 2);
        call(1, 4, 2, 9, 1, 5).fault("R3 below R2", 5, 1, 2);
        call(1, 4, 2, 9, 1, 4).counter("R3 below R2", 4, 1, 4);
    }

    private static void callsThatFault() {
        Bench none = new Bench().code(Words.op(Words.CALL, 1, 7)).pointTo(1, 9, 3, 0);
        none.run(1).fault("CALL of no segment", 1, 9, 10).copies("not copied", 0, 1);
        Bench data = new Bench().code(Words.op(Words.CALL, 2, 7)).run(1);
        data.fault("CALL of what may not be EXECUTED", 4, 2, 7).copies("copied", 0, 2, 1);
        // That it may not be EXECUTED comes ahead of the rings.
        new Bench().code(Words.op(Words.CALL, 2, 7)).pointTo(2, 2, 0, 7).run(1).fault("both", 4, 2, 7);
    }

    private static void whatCallChanges() {
        Bench b = new Bench().code(Words.op(Words.CALL, 0, 5)).pointTo(0, 3, 60, 4).at(1, 0, 3);
        b.run(1).counter("CALL through P0", 3, 65, 4).register("CALL through P0", Words.P, Words.pointer(1, 1, 3));
        // Only the descriptor is looked for, no page.
        b.copies("descriptors", 0, 3, 1).copies("pages", 1);
        Bench own = new Bench().code(0, 0, 0, Words.op(Words.CALL, 200)).at(1, 3, 2).run(1);
        own.counter("CALL in its own segment", 1, 200, 2).register("CALL", Words.P, Words.pointer(1, 4, 2));
        Bench last = new Bench().segment(1, Words.first(Bench.CODE, 4095), Words.second(0, 4, 6, Words.ALL, 3));
        last.words(Bench.CODE - 1, Words.op(Words.CALL, 20)).at(1, 4095, 0).run(1);
        last.counter("CALL at the last word", 1, 20, 0).register("the next word", Words.P, Words.pointer(1, 0, 0));
    }

    private static Bench rtn(long word, int pointersRing, int ring) {
        Bench b = new Bench().code(0, Words.op(Words.RTN, 2, 4)).data(0, 0, 0, 0, word);
        return b.pointTo(2, 2, 0, pointersRing).at(1, 1, ring).run(1);
    }

    private static void returns() {
        rtn(Words.pointer(9, 77, 0), 0, 0).counter("RTN", 9, 77, 0).noFault("RTN");
        rtn(Words.pointer(9, 77, 6), 3, 1).counter("RTN by the word's ring", 9, 77, 6);
        rtn(Words.pointer(9, 77, 2), 5, 1).counter("RTN by the effective ring", 9, 77, 5);
        rtn(Words.pointer(9, 77, 2), 0, 4).counter("RTN by the RING", 9, 77, 4);
        rtn(Words.goesOn(Words.number(Words.pointer(9, 77, 2), 3)), 0, 0).counter("RTN goes not on", 9, 77, 2);
        for (int kind = 0; kind < 8; kind++) {
            if (kind != 1) {
                rtn(Words.kind(kind, 9, 77, 2), 0, 3).fault("RTN by kind " + kind, 6, 1, 1);
                rtn(Words.kind(kind, 0, 0, 0), 0, 0).fault("RTN by kind " + kind, 6, 1, 1);
            }
        }
        rtn(Words.pointer(9, 77, 2), 6, 0).fault("RTN may not read", 4, 2, 4);
        Bench b = new Bench().code(Words.op(Words.RTN, 0, 4)).pointTo(0, 12, 1, 0).run(1);
        b.fault("RTN by no segment", 1, 12, 5);
    }

    /** Ring 6 calls a gate of segment 1, whose ring 4 returns to ring 6. */
    private static void roundTrip() {
        Bench b = new Bench().code(0, Words.op(Words.SPR, 3, 0), Words.op(Words.RTN, 3, 0)).pointTo(3, 2, 0, 0);
        b.segment(5, Words.first(2048, 50), Words.second(5, 7, 7, Words.ALL, 0)).pointTo(1, 1, 1, 0);
        b.x.poke(2048 + 8, Words.op(Words.CALL, 1, 0));
        b.at(5, 8, 6).run(1).counter("CALL of a gate", 1, 1, 4).register("CALL", Words.P, Words.pointer(5, 9, 6));
        b.run(1).word("SPR", Bench.DATA, Words.pointer(5, 9, 6));
        b.run(1).counter("RTN", 5, 9, 6).noFault("all");
    }
}
