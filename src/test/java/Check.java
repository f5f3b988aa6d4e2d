import java.util.NoSuchElementException;

/** Counts answers that are not as due, and ends a test with exit code 1 if there was one. */
final class Check {
    static final Class<?> NO_SUCH = NoSuchElementException.class;
    static final Class<?> ARGUMENT = IllegalArgumentException.class;
    static final Class<?> STATE = IllegalStateException.class;

    /** A call of MakerGuard, whatever it answers. */
    interface Call {
        void on(MakerGuard guard);
    }

    /** A call of MakerGuard that answers a number. */
    interface Ask {
        long of(MakerGuard guard);
    }

    private static final int TOLD_AT_MOST = 40;
    private static int looked = 0;
    private static int wrong = 0;

    private Check() {
    }

    static void due(String what, long got, long want) {
        due(what, Long.toString(got), Long.toString(want));
    }

    static void due(String what, boolean got, boolean want) {
        due(what, Boolean.toString(got), Boolean.toString(want));
    }

    static void due(String what, String got, String want) {
        looked++;
        if (!got.equals(want)) {
            wrong++;
            if (wrong <= TOLD_AT_MOST) {
                System.out.println(what + " answered " + got + ", due is " + want);
            }
        }
    }

    static void refused(String what, MakerGuard guard, Class<?> kind, Call call) {
        due(what + " throws", thrown(guard, call), kind.getSimpleName());
    }

    static String thrown(MakerGuard guard, Call call) {
        try {
            call.on(guard);
            return "nothing";
        } catch (RuntimeException e) {
            return e.getClass().getSimpleName();
        }
    }

    /** What a call answers, or the name of what it throws. */
    static String told(MakerGuard guard, Ask ask) {
        try {
            return Long.toString(ask.of(guard));
        } catch (RuntimeException e) {
            return e.getClass().getSimpleName();
        }
    }

    /** Instructions of four numbers: order, x, y, z. */
    static void write(MakerGuard guard, int body, int[]... instructions) {
        for (int[] i : instructions) {
            guard.add(body, i[0], i[1], i[2], i[3]);
        }
    }

    static MakerGuard of(int body, int[]... instructions) {
        MakerGuard guard = new MakerGuard();
        write(guard, body, instructions);
        return guard;
    }

    /** What a local holds: due are its class, nullness and state. */
    static void held(String what, MakerGuard guard, int body, int place, int local, int... due) {
        for (int k = 0; k < 3; k++) {
            due(what + ", what " + k, guard.holds(body, place, local, k), due[k]);
        }
    }

    /** All that state() tells: due are its seven answers. */
    static void states(String what, MakerGuard guard, int... due) {
        for (int k = 0; k < 7; k++) {
            due(what + ": state(" + k + ")", guard.state(k), due[k]);
        }
    }

    static void locals(String what, MakerGuard guard, int... due) {
        for (int k = 0; k < 8; k++) {
            due(what + ": local(" + k + ")", guard.local(k), due[k]);
        }
    }

    static int[] copy(int x, int y) {
        return new int[] {0, x, y, 0};
    }

    static int[] setNull(int x) {
        return new int[] {1, x, 0, 0};
    }

    static int[] make(int x, int c, int z) {
        return new int[] {2, x, c, z};
    }

    static int[] get(int x, int y, int z) {
        return new int[] {3, x, y, z};
    }

    static int[] put(int x, int y, int z) {
        return new int[] {4, x, y, z};
    }

    static int[] ifNull(int x, int place) {
        return new int[] {5, x, place, 0};
    }

    static int[] go(int place) {
        return new int[] {6, 0, place, 0};
    }

    static int[] call(int x, int function, int z) {
        return new int[] {7, x, function, z};
    }

    static int[] giveBack(int x) {
        return new int[] {8, x, 0, 0};
    }

    static void finish() {
        System.out.println(looked + " answers looked at, " + wrong + " not as due");
        if (wrong != 0 || looked == 0) {
            System.exit(1);
        }
    }
}
