/** Holds answers against those that are due, and ends a test. */
final class Due {
    private static final int MOST_PRINTED = 200;
    private static int held = 0;
    private static int wrong = 0;

    private Due() {
    }

    interface Call {
        void make();
    }

    static void is(String what, long got, long want) {
        held++;
        if (got != want) {
            wrong++;
            if (wrong > MOST_PRINTED) {
                return;
            }
            System.out.println(what + " answered " + got + ", due is " + want);
        }
    }

    static void outOfBounds(String what, Call call) {
        is(what + " (throws)", thrownBy(call), 1);
    }

    static void illegal(String what, Call call) {
        is(what + " (throws)", thrownBy(call), 2);
    }

    /** 0 nothing, 1 IndexOutOfBoundsException, 2 IllegalArgumentException, 3 another. */
    static int thrownBy(Call call) {
        try {
            call.make();
            return 0;
        } catch (RuntimeException e) {
            if (e.getClass() == IndexOutOfBoundsException.class) {
                return 1;
            }
            return e.getClass() == IllegalArgumentException.class ? 2 : 3;
        }
    }

    static void end() {
        System.out.println(held + " answers, " + wrong + " not as due");
        if (wrong != 0 || held == 0) {
            System.exit(1);
        }
    }
}
