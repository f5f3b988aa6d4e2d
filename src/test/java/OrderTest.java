import java.util.function.Supplier;

/**
 * Mixtures of right and wrong arguments at the edges: what comes is the exception that the document
 * names first of all that would fit (NoSuchElement, IllegalArgument, IllegalState), or none.
 */
public final class OrderTest {
    private static final String FINE = "nothing";
    private static final String NO_SUCH = Check.NO_SUCH.getSimpleName();
    private static final String ARGUMENT = Check.ARGUMENT.getSimpleName();
    private static final String STATE = Check.STATE.getSimpleName();

    private static final int FULL = 11;
    private static final int NOT_GOOD = 1;
    private static final int EMPTY = 2;
    private static final int[] BODIES = {-1, 0, NOT_GOOD, EMPTY, 5, 6, 7, 8, FULL, 12};
    private static final int[] CLASSES = {-1, 0, 5, 6};
    private static final int[] STATES = {-1, 0, 2, 3};
    private static final int[] LOCALS = {-1, 0, 7, 8};
    private static final int[] PLACES = {-1, 0, 1, 2, 39, 40};
    private static final boolean[] EITHER_WAY = {false, true};

    public static void main(String[] args) {
        field();
        parameter();
        returns();
        add();
        bodiesAlone();
        holds();
        fields();
        start();
        runAndState();
        localAndObject();
        count();
        Check.finish();
    }

    private static void field() {
        for (int c : CLASSES) {
            for (int k : new int[] {-1, 0, 3, 4}) {
                for (int held : CLASSES) {
                    boolean there = isIn(c, 6) && isIn(k, 4) && isIn(held, 6);
                    due("field " + c + " " + k + " " + held, first(there, true, true), x -> x.field(c, k, held, true));
                }
            }
        }
    }

    private static void parameter() {
        for (int body : BODIES) {
            for (int k = -1; k <= 8; k++) {
                for (int c : CLASSES) {
                    for (int s : STATES) {
                        int number = k;
                        boolean there = isIn(body, 12) && isIn(k, 3) && isIn(c, 6) && isIn(s, 3);
                        boolean ready = there && k <= parametersOf(body);
                        due("parameter " + body + " " + k + " " + c + " " + s, first(there, true, ready),
                                x -> x.parameter(body, number, c, false, s));
                    }
                }
            }
        }
    }

    private static void returns() {
        for (int function : CLASSES) {
            for (int c : CLASSES) {
                for (int s : STATES) {
                    boolean there = isIn(function, 6) && isIn(c, 6) && isIn(s, 3);
                    due("returns " + function + " " + c + " " + s, first(there, true, true), x -> x.returns(function, c, true, s));
                }
            }
        }
    }

    private static void add() {
        for (int body : new int[] {-1, 0, FULL, 12}) {
            for (int order = -1; order <= 9; order++) {
                for (int x : LOCALS) {
                    for (int y : new int[] {-1, 0, 5, 6, 7, 8}) {
                        for (int z : new int[] {-1, 0, 3, 4, 7, 8}) {
                            addOne(body, order, x, y, z);
                        }
                    }
                }
            }
        }
    }

    /** What has to be there is "of the order": of a number that is none, only the body. */
    private static void addOne(int body, int order, int x, int y, int z) {
        boolean known = isIn(order, 9);
        boolean there = isIn(body, 12) && (!known || numbersAreThere(order, x, y, z));
        due("add " + body + " " + order + " " + x + " " + y + " " + z, first(there, known, body != FULL),
                g -> g.add(body, order, x, y, z));
    }

    private static boolean numbersAreThere(int order, int x, int y, int z) {
        return (order == 6 || isIn(x, 8))
                && (order != 0 && order != 3 && order != 4 || isIn(y, 8))
                && (order != 2 && order != 7 || isIn(y, 6))
                && (order != 3 && order != 4 || isIn(z, 4))
                && (order != 2 && order != 7 || isIn(z, 8));
    }

    private static void bodiesAlone() {
        for (int body : BODIES) {
            due("clear " + body, first(isIn(body, 12), true, true), x -> x.clear(body));
            due("good " + body, first(isIn(body, 12), true, true), x -> x.good(body));
        }
    }

    private static void holds() {
        for (int body : BODIES) {
            for (int place : PLACES) {
                for (int local : LOCALS) {
                    for (int what : new int[] {-1, 0, 2, 3}) {
                        boolean there = isIn(body, 12) && isIn(place, sizeOf(body)) && isIn(local, 8);
                        due("holds " + body + " " + place + " " + local + " " + what,
                                first(there, isIn(what, 3), body != NOT_GOOD), x -> x.holds(body, place, local, what));
                    }
                }
            }
        }
    }

    private static void fields() {
        for (int body : BODIES) {
            for (int place : PLACES) {
                boolean there = isIn(body, 6) && isIn(place, sizeOf(body));
                due("fields " + body + " " + place, first(there, true, body != NOT_GOOD), x -> x.fields(body, place));
            }
        }
    }

    private static void start() {
        for (int function = -1; function <= 6; function++) {
            int number = function;
            boolean there = isIn(function, 6);
            boolean ready = there && parametersOf(6 + function) == 0;
            due("start " + function, first(there, true, ready), x -> x.start(number));
        }
    }

    private static void runAndState() {
        for (boolean isRun : EITHER_WAY) {
            Supplier<MakerGuard> copies = isRun ? OrderTest::started : OrderTest::written;
            for (int n : new int[] {-1, 0, 1, 1000, 1001}) {
                due("run " + n, first(true, n >= 0 && n <= 1000, isRun), copies, x -> x.run(n));
            }
            for (int what = -1; what <= 7; what++) {
                int number = what;
                due("state " + what, first(true, isIn(what, 7), isRun), copies, x -> x.state(number));
            }
        }
    }

    private static void localAndObject() {
        for (boolean isRun : EITHER_WAY) {
            Supplier<MakerGuard> copies = isRun ? OrderTest::started : OrderTest::written;
            for (int k = -1; k <= 8; k++) {
                int number = k;
                due("local " + k, first(isRun && isIn(k, 8), true, true), copies, x -> x.local(number));
                for (int o : new int[] {-1, 0, 1, 2, 60}) {
                    due("object " + o + " " + k, first(isRun && isIn(o, 2) && isIn(k, 5), true, true), copies,
                            x -> x.object(o, number));
                }
            }
        }
    }

    private static void count() {
        for (int what = -1; what <= 2; what++) {
            int number = what;
            due("count " + what, first(true, isIn(what, 2), true), x -> x.count(number));
        }
    }

    private static boolean isIn(int number, int bound) {
        return number >= 0 && number < bound;
    }

    private static String first(boolean there, boolean known, boolean ready) {
        if (!there) {
            return NO_SUCH;
        }
        return !known ? ARGUMENT : !ready ? STATE : FINE;
    }

    private static int parametersOf(int body) {
        return isIn(body - 5, 4) ? body - 5 : 0;
    }

    private static int sizeOf(int body) {
        return body == EMPTY ? 0 : body == FULL ? 40 : 2;
    }

    /** Bodies 6, 7, 8 have one, two, three parameters; those that are neither empty nor full have two places. */
    private static MakerGuard written() {
        MakerGuard g = new MakerGuard();
        for (int body = 0; body < 12; body++) {
            for (int k = 0; k < parametersOf(body); k++) {
                g.parameter(body, k, 1, true, 1);
            }
            for (int k = 0; k < sizeOf(body); k++) {
                g.add(body, body == NOT_GOOD ? 1 : 6, 7, 0, 0);
            }
        }
        return g;
    }

    /** The run has made two objects. */
    private static MakerGuard started() {
        MakerGuard g = written();
        g.clear(0);
        g.clear(9);
        Check.write(g, 0, Check.giveBack(0));
        Check.write(g, 9, Check.make(0, 0, 0), Check.make(1, 0, 0), Check.go(2));
        g.start(3);
        g.run(4);
        return g;
    }

    private static void due(String what, String due, Check.Call call) {
        due(what, due, OrderTest::written, call);
    }

    /** What is refused leaves the counts as they were; RefusalTest looks at all the rest. */
    private static void due(String what, String due, Supplier<MakerGuard> copies, Check.Call call) {
        MakerGuard g = copies.get();
        String before = g.count(0) + " " + g.count(1);
        Check.due(what + " throws", Check.thrown(g, call), due);
        if (!due.equals(FINE)) {
            Check.due(what + ": counts", g.count(0) + " " + g.count(1), before);
        }
    }
}
