/** Reaches a word by reach() and by an instruction, in one of its three ways, and holds both against what is due. */
final class Ways {
    private static final long MARK = 4242;

    private Ways() {
    }

    /** Want is the address, or -1 less the fault. The instruction is made in segment 1, word 0. */
    static void due(String what, Bench b, int segment, int word, int ring, int way, int want) {
        String call = what + ": reach(" + segment + ", " + word + ", " + ring + ", " + way + ")";
        Due.is(call, b.x.reach(segment, word, ring, way), want);
        if (want >= 0) {
            b.x.poke(want, way == 2 ? Words.op(Words.EAA, (int) MARK % 4096) : way == 0 ? MARK : 0);
        }
        b.x.set(Words.A, way == 1 ? MARK : 0);
        if (way == 2) {
            b.at(segment, word, ring);
        } else {
            b.code(Words.op(way == 0 ? Words.LDA : Words.STA, 1, 0)).pointTo(1, segment, word, ring).at(1, 0, 0);
        }
        b.run(1);
        if (want < 0) {
            b.fault(call, -1 - want, segment, word);
        } else {
            reached(call, b, way, want);
        }
    }

    private static void reached(String call, Bench b, int way, int want) {
        b.noFault(call);
        if (way == 1) {
            b.word(call, want, MARK);
        } else {
            b.register(call, Words.A, way == 0 ? MARK : MARK % 4096);
        }
    }
}
