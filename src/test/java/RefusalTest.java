import java.util.function.Supplier;

/**
 * Wrong inputs of all calls, promise by promise: a value just below and just above each bound and the
 * farthest ones; which exception comes, and that nothing at all has changed behind it.
 */
public final class RefusalTest {
    private static final int LEAST = Integer.MIN_VALUE;
    private static final int MOST = Integer.MAX_VALUE;
    private static final int[] NO_CLASS = {-1, 6, LEAST, MOST};
    private static final int[] NO_FUNCTION = {-1, 6, LEAST, MOST};
    private static final int[] NO_FIELD = {-1, 4, LEAST, MOST};
    private static final int[] NO_BODY = {-1, 12, LEAST, MOST};
    private static final int[] NO_LOCAL = {-1, 8, LEAST, MOST};
    private static final int[] NO_STATE = {-1, 3, LEAST, MOST};
    private static final int[] NO_PARAMETER = {-1, 3, 7, 8, LEAST, MOST};
    private static final int[] NO_ORDER = {-1, 9, LEAST, MOST};
    private static final int FULL = 11;

    private static final String IN_THE_MIDDLE = Witness.of(RefusalTest::inTheMiddle);

    public static void main(String[] args) {
        stagesAreAsMeant();
        field();
        parameter();
        returns();
        addBody();
        addOrder();
        addOrderToNewObject();
        addLocals();
        addClassFunctionField();
        addToFullBody();
        clearAndGood();
        holds();
        fields();
        start();
        run();
        state();
        local();
        object();
        count();
        inEachStageOfARun();
        Check.finish();
    }

    private static void stagesAreAsMeant() {
        MakerGuard g = inTheMiddle();
        Check.due("good bodies", g.count(1), 7);
        Check.due("good body 6", g.good(6), true);
        Check.due("frames in the middle", g.state(2), 2);
        Check.due("objects in the middle", g.state(5), 1);
        Check.due("ended", ran(0, 1000).state(0), 1);
        Check.due("stopped by trouble", ran(4, 1000).state(0), 2);
    }

    private static void field() {
        for (int bad : NO_CLASS) {
            refuse("field c " + bad, Check.NO_SUCH, x -> x.field(bad, 1, 3, true));
            refuse("field holds " + bad, Check.NO_SUCH, x -> x.field(2, 1, bad, true));
        }
        for (int bad : NO_FIELD) {
            refuse("field k " + bad, Check.NO_SUCH, x -> x.field(2, bad, 3, true));
        }
    }

    private static void parameter() {
        for (int bad : NO_BODY) {
            refuse("parameter body " + bad, Check.NO_SUCH, x -> x.parameter(bad, 0, 3, false, 2));
        }
        for (int bad : NO_PARAMETER) {
            refuse("parameter k " + bad + " of none", Check.NO_SUCH, x -> x.parameter(1, bad, 3, false, 2));
            refuse("parameter k " + bad + " of one", Check.NO_SUCH, x -> x.parameter(7, bad, 3, false, 2));
            refuse("parameter k " + bad + " of three", Check.NO_SUCH, x -> x.parameter(9, bad, 3, false, 2));
        }
        for (int bad : NO_CLASS) {
            refuse("parameter c " + bad, Check.NO_SUCH, x -> x.parameter(7, 0, bad, false, 2));
            refuse("the next parameter, c " + bad, Check.NO_SUCH, x -> x.parameter(7, 1, bad, false, 2));
        }
        for (int bad : NO_STATE) {
            refuse("parameter state " + bad, Check.NO_SUCH, x -> x.parameter(7, 0, 3, false, bad));
            refuse("the next parameter, state " + bad, Check.NO_SUCH, x -> x.parameter(7, 1, 3, false, bad));
        }
        refuse("parameter 1 of none", Check.STATE, x -> x.parameter(1, 1, 3, false, 2));
        refuse("parameter 2 of none", Check.STATE, x -> x.parameter(1, 2, 3, false, 2));
        refuse("parameter 2 of one", Check.STATE, x -> x.parameter(7, 2, 3, false, 2));
        refuse("that, and no class", Check.NO_SUCH, x -> x.parameter(7, 2, 6, false, 2));
        refuse("that, and no state", Check.NO_SUCH, x -> x.parameter(7, 2, 3, false, 3));
        refuse("that, and no body", Check.NO_SUCH, x -> x.parameter(12, 2, 3, false, 2));
    }

    private static void returns() {
        for (int bad : NO_FUNCTION) {
            refuse("returns function " + bad, Check.NO_SUCH, x -> x.returns(bad, 5, true, 2));
        }
        for (int bad : NO_CLASS) {
            refuse("returns c " + bad, Check.NO_SUCH, x -> x.returns(3, bad, true, 2));
        }
        for (int bad : NO_STATE) {
            refuse("returns state " + bad, Check.NO_SUCH, x -> x.returns(3, 5, true, bad));
        }
    }

    private static void addBody() {
        for (int bad : NO_BODY) {
            refuse("add body " + bad, Check.NO_SUCH, x -> x.add(bad, 8, 0, 0, 0));
            for (int order : NO_ORDER) {
                refuse("add body " + bad + " and order " + order, Check.NO_SUCH, x -> x.add(bad, order, 0, 0, 0));
                refuse("that, and no local", Check.NO_SUCH, x -> x.add(bad, order, 8, 0, 0));
            }
        }
    }

    /** Without an order x, y and z are mere numbers: none of them can be a local, class, function or field that is not there. */
    private static void addOrder() {
        for (int order : NO_ORDER) {
            refuse("add order " + order, Check.ARGUMENT, x -> x.add(0, order, 7, 0, 0));
            for (int bad : NO_LOCAL) {
                refuse("add order " + order + ", x " + bad, Check.ARGUMENT, x -> x.add(0, order, bad, 0, 0));
                refuse("add order " + order + ", y no local " + bad, Check.ARGUMENT, x -> x.add(0, order, 0, bad, 0));
                refuse("add order " + order + ", z no local " + bad, Check.ARGUMENT, x -> x.add(0, order, 0, 0, bad));
                refuse("add order " + order + ", all " + bad, Check.ARGUMENT, x -> x.add(6, order, bad, bad, bad));
            }
            refuse("add order " + order + ", y no class or function", Check.ARGUMENT, x -> x.add(0, order, 0, 6, 0));
            refuse("add order " + order + ", z no field", Check.ARGUMENT, x -> x.add(0, order, 0, 0, 4));
        }
    }

    private static void addOrderToNewObject() {
        String untouched = Witness.of(MakerGuard::new);
        for (int order : NO_ORDER) {
            for (int body : new int[] {0, 5, 6, 11}) {
                refuse("add order " + order + " and no local to new body " + body, Check.ARGUMENT, MakerGuard::new, untouched,
                        x -> x.add(body, order, 8, 0, 0));
            }
        }
    }

    private static void addLocals() {
        for (int bad : NO_LOCAL) {
            for (int order : new int[] {0, 1, 2, 3, 4, 5, 7, 8}) {
                refuse("add x " + bad + " of order " + order, Check.NO_SUCH, x -> x.add(0, order, bad, 0, 0));
            }
            for (int order : new int[] {0, 3, 4}) {
                refuse("add y " + bad + " of order " + order, Check.NO_SUCH, x -> x.add(0, order, 0, bad, 0));
            }
            for (int order : new int[] {2, 7}) {
                refuse("add z " + bad + " of order " + order, Check.NO_SUCH, x -> x.add(0, order, 0, 0, bad));
            }
        }
    }

    private static void addClassFunctionField() {
        for (int bad : NO_CLASS) {
            refuse("add class " + bad, Check.NO_SUCH, x -> x.add(0, 2, 0, bad, 0));
        }
        for (int bad : NO_FUNCTION) {
            refuse("add function " + bad, Check.NO_SUCH, x -> x.add(0, 7, 0, bad, 0));
        }
        for (int bad : NO_FIELD) {
            refuse("add field of GET " + bad, Check.NO_SUCH, x -> x.add(0, 3, 0, 0, bad));
            refuse("add field of PUT " + bad, Check.NO_SUCH, x -> x.add(0, 4, 0, 0, bad));
        }
    }

    private static void addToFullBody() {
        for (int order = 0; order <= 8; order++) {
            int next = order;
            refuse("add of order " + order + " to a full body", Check.STATE, x -> x.add(FULL, next, 0, 0, 0));
        }
        refuse("that, and no local", Check.NO_SUCH, x -> x.add(FULL, 8, 8, 0, 0));
        for (int order : NO_ORDER) {
            refuse("that, and order " + order, Check.ARGUMENT, x -> x.add(FULL, order, 0, 0, 0));
            refuse("that, order " + order + " and no local", Check.ARGUMENT, x -> x.add(FULL, order, 8, 0, 0));
        }
    }

    private static void clearAndGood() {
        for (int bad : NO_BODY) {
            refuse("clear " + bad, Check.NO_SUCH, x -> x.clear(bad));
            refuse("good " + bad, Check.NO_SUCH, x -> x.good(bad));
        }
    }

    private static void holds() {
        for (int bad : NO_BODY) {
            refuse("holds body " + bad, Check.NO_SUCH, x -> x.holds(bad, 0, 0, 0));
        }
        for (int bad : new int[] {-1, 2, 40, LEAST, MOST}) {
            refuse("holds place " + bad, Check.NO_SUCH, x -> x.holds(0, bad, 0, 0));
            refuse("that, and nothing to ask for", Check.NO_SUCH, x -> x.holds(0, bad, 0, 3));
            refuse("that, of one that is not good", Check.NO_SUCH, x -> x.holds(8, bad, 0, 0));
        }
        for (int bad : NO_LOCAL) {
            refuse("holds local " + bad, Check.NO_SUCH, x -> x.holds(0, 0, bad, 0));
            refuse("that, and nothing to ask for", Check.NO_SUCH, x -> x.holds(0, 0, bad, 3));
            refuse("that, of one that is not good", Check.NO_SUCH, x -> x.holds(8, 0, bad, 0));
        }
        for (int bad : new int[] {-1, 3, LEAST, MOST}) {
            refuse("holds what " + bad, Check.ARGUMENT, x -> x.holds(0, 0, 0, bad));
            refuse("that, of one that is not good", Check.ARGUMENT, x -> x.holds(8, 0, 0, bad));
        }
        refuse("holds of one that is not good", Check.STATE, x -> x.holds(8, 0, 0, 0));
        refuse("holds of that where no way comes", Check.STATE, x -> x.holds(8, 1, 0, 0));
        refuse("holds of an empty body", Check.NO_SUCH, x -> x.holds(3, 0, 0, 0));
        refuse("holds behind the last place of a full body", Check.NO_SUCH, x -> x.holds(FULL, 40, 0, 0));
    }

    private static void fields() {
        for (int bad : NO_BODY) {
            refuse("fields body " + bad, Check.NO_SUCH, x -> x.fields(bad, 0));
        }
        for (int function = 6; function < 12; function++) {
            int body = function;
            refuse("fields of no maker " + body, Check.NO_SUCH, x -> x.fields(body, 0));
        }
        for (int bad : new int[] {-1, 2, 40, LEAST, MOST}) {
            refuse("fields place " + bad, Check.NO_SUCH, x -> x.fields(0, bad));
            refuse("that, of one that is not good", Check.NO_SUCH, x -> x.fields(2, bad));
        }
        refuse("fields of one that is not good", Check.STATE, x -> x.fields(2, 0));
        refuse("fields of that where no way comes", Check.STATE, x -> x.fields(2, 1));
        refuse("fields of an empty body", Check.NO_SUCH, x -> x.fields(3, 0));
    }

    private static void start() {
        for (int bad : NO_FUNCTION) {
            refuse("start " + bad, Check.NO_SUCH, x -> x.start(bad));
        }
        refuse("start of one with a parameter", Check.STATE, x -> x.start(1));
        refuse("start of one with three", Check.STATE, x -> x.start(3));
    }

    private static void run() {
        for (int bad : new int[] {-1, 1001, LEAST, MOST}) {
            refuse("run " + bad, Check.ARGUMENT, x -> x.run(bad));
        }
    }

    private static void state() {
        for (int bad : new int[] {-1, 7, LEAST, MOST}) {
            refuse("state " + bad, Check.ARGUMENT, x -> x.state(bad));
        }
    }

    private static void local() {
        for (int bad : NO_LOCAL) {
            refuse("local " + bad, Check.NO_SUCH, x -> x.local(bad));
        }
    }

    private static void object() {
        for (int bad : new int[] {-1, 5, LEAST, MOST}) {
            refuse("object k " + bad, Check.NO_SUCH, x -> x.object(0, bad));
        }
        for (int bad : new int[] {-1, 1, 60, LEAST, MOST}) {
            refuse("object o " + bad, Check.NO_SUCH, x -> x.object(bad, 0));
            refuse("object o " + bad + ", its class", Check.NO_SUCH, x -> x.object(bad, 4));
        }
    }

    private static void count() {
        for (int bad : new int[] {-1, 2, LEAST, MOST}) {
            refuse("count " + bad, Check.ARGUMENT, x -> x.count(bad));
        }
    }

    /** A call that is refused neither ends a run, nor begins one, whatever has become of it. */
    private static void inEachStageOfARun() {
        refuseAll("without a run", RefusalTest::written);
        refuseAll("just started", () -> ran(0, 0));
        refuseAll("ended", () -> ran(0, 1000));
        refuseAll("stopped by trouble", () -> ran(4, 1000));
        MakerGuard none = written();
        Check.refused("run without a run", none, Check.STATE, x -> x.run(0));
        Check.refused("that, of too many", none, Check.ARGUMENT, x -> x.run(1001));
        Check.refused("that, of too few", none, Check.ARGUMENT, x -> x.run(-1));
        Check.refused("state without a run", none, Check.STATE, x -> x.state(6));
        Check.refused("that, of nothing to ask for", none, Check.ARGUMENT, x -> x.state(7));
        Check.refused("local without a run", none, Check.NO_SUCH, x -> x.local(0));
        Check.refused("object without a run", none, Check.NO_SUCH, x -> x.object(0, 4));
        MakerGuard ended = ran(0, 1000);
        Check.refused("local of a run that has ended", ended, Check.NO_SUCH, x -> x.local(0));
        Check.due("object of a run that has ended", ended.object(0, 4), 4);
    }

    private static void refuseAll(String when, Supplier<MakerGuard> copies) {
        String untouched = Witness.of(copies);
        refuse("field, " + when, Check.NO_SUCH, copies, untouched, x -> x.field(2, 4, 3, true));
        refuse("parameter, " + when, Check.NO_SUCH, copies, untouched, x -> x.parameter(7, 0, 6, false, 2));
        refuse("parameter behind the next, " + when, Check.STATE, copies, untouched, x -> x.parameter(7, 2, 3, false, 2));
        refuse("returns, " + when, Check.NO_SUCH, copies, untouched, x -> x.returns(3, 5, true, 3));
        refuse("add of no local, " + when, Check.NO_SUCH, copies, untouched, x -> x.add(0, 0, 0, 8, 0));
        refuse("add of no order, " + when, Check.ARGUMENT, copies, untouched, x -> x.add(0, 9, 0, 0, 0));
        refuse("add of no order, x no local, " + when, Check.ARGUMENT, copies, untouched, x -> x.add(0, 9, 8, 0, 0));
        refuse("add to a full body, " + when, Check.STATE, copies, untouched, x -> x.add(FULL, 8, 0, 0, 0));
        refuse("clear, " + when, Check.NO_SUCH, copies, untouched, x -> x.clear(12));
        refuse("good, " + when, Check.NO_SUCH, copies, untouched, x -> x.good(12));
        refuse("holds, " + when, Check.STATE, copies, untouched, x -> x.holds(8, 0, 0, 0));
        refuse("fields, " + when, Check.STATE, copies, untouched, x -> x.fields(2, 0));
        refuse("start of no function, " + when, Check.NO_SUCH, copies, untouched, x -> x.start(6));
        refuse("start with parameters, " + when, Check.STATE, copies, untouched, x -> x.start(1));
        refuse("run, " + when, Check.ARGUMENT, copies, untouched, x -> x.run(1001));
        refuse("state, " + when, Check.ARGUMENT, copies, untouched, x -> x.state(7));
        refuse("local, " + when, Check.NO_SUCH, copies, untouched, x -> x.local(8));
        refuse("object, " + when, Check.NO_SUCH, copies, untouched, x -> x.object(59, 0));
        refuse("count, " + when, Check.ARGUMENT, copies, untouched, x -> x.count(2));
    }

    /** Bodies 2, 8 and 10 are not good, 3 and 5 are empty, 11 is full; almost all is declared otherwise than at first. */
    private static MakerGuard written() {
        MakerGuard g = new MakerGuard();
        for (int c = 0; c < 6; c++) {
            g.field(c, c % 4, 5 - c, c > 1);
            g.field(c, (c + 1) % 4, (c + 1) % 6, c != 2);
            g.returns(c, (c + 2) % 6, c % 2 == 0, (c + 1) % 3);
        }
        g.field(4, 3, 4, false);
        g.returns(0, 4, false, 0);
        g.returns(1, 4, true, 2);
        g.parameter(7, 0, 4, true, 2);
        for (int k = 0; k < 3; k++) {
            g.parameter(9, k, k + 1, true, k);
        }
        Check.write(g, 0, Check.go(0), Check.giveBack(0));
        Check.write(g, 1, Check.go(0));
        Check.write(g, 2, Check.giveBack(0), Check.giveBack(0));
        Check.write(g, 4, Check.put(7, 7, 3), Check.giveBack(0));
        Check.write(g, 6, Check.make(1, 4, 0), Check.copy(2, 1), Check.call(3, 1, 1), Check.put(1, 2, 3), Check.giveBack(1));
        Check.write(g, 7, Check.giveBack(0));
        Check.write(g, 8, Check.giveBack(0), Check.giveBack(0));
        Check.write(g, 9, Check.go(0));
        Check.write(g, 10, Check.get(0, 0, 0));
        for (int k = 0; k < 40; k++) {
            g.add(FULL, 6, 0, 0, 0);
        }
        return g;
    }

    private static MakerGuard ran(int function, int steps) {
        MakerGuard g = written();
        g.start(function);
        g.run(steps);
        return g;
    }

    /** One object is made; function 1 has been called. */
    private static MakerGuard inTheMiddle() {
        return ran(0, 5);
    }

    private static void refuse(String what, Class<?> kind, Check.Call call) {
        refuse(what, kind, RefusalTest::inTheMiddle, IN_THE_MIDDLE, call);
    }

    private static void refuse(String what, Class<?> kind, Supplier<MakerGuard> copies, String untouched, Check.Call call) {
        Check.refused(what, copies.get(), kind, call);
        String after = Witness.of(() -> {
            MakerGuard g = copies.get();
            Check.thrown(g, call);
            return g;
        });
        Check.due(what + ": all that can be seen behind it", after, untouched);
    }
}
