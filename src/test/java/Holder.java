import java.util.ArrayList;
import java.util.List;

/** Writes function 0, so that its locals hold what a test asks for; then the test's own instructions follow. */
final class Holder {
    static final int BODY = 6;

    /** What a local holds: class (-2: it holds nothing, -1: none), nullness, state. */
    record Held(int c, int nullness, int state) {
        boolean isSomething() {
            return c != -2;
        }

        boolean isNull() {
            return nullness == 2;
        }

        @Override
        public String toString() {
            return "(" + c + " " + nullness + " " + state + ")";
        }
    }

    static final Held NOTHING = new Held(-2, -2, -2);
    static final Held NULL_ALONE = new Held(-1, 2, 0);

    final MakerGuard g = new MakerGuard();
    private int parameters = 0;
    private int size = 0;

    /** All that a local can hold, of two classes. */
    static List<Held> all(int oneClass, int otherClass) {
        List<Held> all = new ArrayList<>(List.of(NOTHING, NULL_ALONE));
        for (int c : new int[] {oneClass, otherClass}) {
            for (int nullness = 0; nullness < 3; nullness++) {
                for (int state = 0; state < 3; state++) {
                    all.add(new Held(c, nullness, state));
                }
            }
        }
        return all;
    }

    /** At most three locals of those behind the parameters hold a class. */
    Holder hold(int local, Held held) {
        if (held.c == -1) {
            return then(Check.setNull(local));
        }
        if (held.c == -2) {
            return this;
        }
        int from = parameters++;
        g.parameter(BODY, from, held.c, held.nullness > 0, held.state);
        if (held.isNull()) {
            then(Check.ifNull(from, size + 2)).then(Check.go(size));
        }
        return then(Check.copy(local, from));
    }

    Holder then(int[]... instructions) {
        Check.write(g, BODY, instructions);
        size += instructions.length;
        return this;
    }

    /** Behind the last instruction the way goes round for ever; answers that place. */
    int end() {
        then(Check.go(size));
        return size - 1;
    }

    int place() {
        return size;
    }

    void due(String what, int place, int local, Held held) {
        Check.held(what, g, BODY, place, local, held.c, held.nullness, held.state);
    }

    void good(String what, boolean due) {
        Check.due(what + ": good", g.good(BODY), due);
    }
}
