import java.util.ArrayList;
import java.util.Arrays;
import java.util.List;

/**
 * Not some, but all bodies of a few instructions, the last one GO or RETURN, over a few locals, classes
 * and fields: every answer of the guard is the Oracle's, whatever the body's parameter is declared to be;
 * and so is every run of one.
 */
public final class SmallTest {
    private static final int LENGTH = 3;
    private static final int CALLS_OF_ONE_OBJECT = 400;
    private static final int FUNCTION = 6;
    private static final int MAKER = 1;

    private final int body;
    private final int[] locals;
    private final boolean runs;
    private final List<int[]> instructions;
    private final Oracle oracle = new Oracle();
    private final List<int[]> code;
    private MakerGuard guard = new MakerGuard();
    private int calls = 0;
    private int good = 0;
    private int ended = 0;

    private SmallTest(int body, int[] locals, int length, boolean runs) {
        this.body = body;
        this.locals = locals;
        this.runs = runs;
        instructions = instructionsOver(locals, length);
        code = oracle.code.get(body);
        declareNeighbours();
    }

    /** The bodies' length may be given: with 4 it takes half a minute. */
    public static void main(String[] args) {
        int length = args.length > 0 ? Integer.parseInt(args[0]) : LENGTH;
        for (int declared = 0; declared < 6; declared++) {
            Oracle.Declared parameter = new Oracle.Declared(1, declared % 2 == 0, declared / 2);
            watchAll(new SmallTest(FUNCTION, new int[] {0, 1}, length, false), parameter, length);
            watchAll(new SmallTest(MAKER, new int[] {0, 7}, length, false), parameter, length);
        }
        SmallTest test = new SmallTest(FUNCTION, new int[] {0, 1}, length, true);
        test.begin();
        test.compareAll(length);
        System.out.println(test.ended + " small runs ended");
        Check.due("some small runs end", test.ended > 0, true);
        Check.finish();
    }

    private static void watchAll(SmallTest test, Oracle.Declared parameter, int length) {
        test.oracle.parameters.get(test.body).add(parameter);
        test.begin();
        test.compareAll(length);
        System.out.println(test.good + " small bodies were good");
        Check.due("some small bodies are good", test.good > 0, true);
    }

    private static List<int[]> instructionsOver(int[] locals, int length) {
        List<int[]> all = new ArrayList<>();
        for (int place = 0; place <= length; place++) {
            all.add(Check.go(place));
        }
        for (int x : locals) {
            all.add(Check.setNull(x));
            all.add(Check.giveBack(x));
            for (int place = 0; place <= length; place++) {
                all.add(Check.ifNull(x, place));
            }
            for (int y : locals) {
                all.add(Check.copy(x, y));
                all.add(Check.call(x, 1, y));
                for (int k = 0; k < 2; k++) {
                    all.add(Check.get(x, y, k));
                    all.add(Check.put(x, y, k));
                    all.add(Check.make(x, k, y));
                }
            }
        }
        return all;
    }

    /** What the body comes across: two classes that hold each other, and makers and a function that ask for something. */
    private void declareNeighbours() {
        oracle.fields[0][1] = new Oracle.Declared(1, false, 0);
        oracle.fields[1][0] = new Oracle.Declared(1, false, 0);
        oracle.parameters.get(0).add(new Oracle.Declared(1, true, 2));
        oracle.parameters.get(7).add(new Oracle.Declared(1, true, 0));
        oracle.returned[0] = new Oracle.Declared(1, true, 2);
        oracle.returned[1] = new Oracle.Declared(1, false, 1);
        // Maker 0 leaves its local 7 null: that must not matter to who makes the object.
        oracle.code.get(0).addAll(List.of(Check.put(7, 0, 1), Check.setNull(7), Check.giveBack(0)));
        oracle.code.get(1).addAll(List.of(Check.put(7, 7, 0), Check.giveBack(0)));
        oracle.code.get(7).add(Check.giveBack(0));
        code.clear();
    }

    /** A new object with all but the body itself: an object is good for some calls only. */
    private void begin() {
        List<int[]> own = new ArrayList<>(code);
        code.clear();
        guard = new MakerGuard();
        calls = new Scribe(0).hand(oracle, guard, List.of(0, 1, 2, 3, 4, 5, 6, 7, 8, 9, 10, 11));
        code.addAll(own);
    }

    private void compareAll(int more) {
        if (more == 0) {
            compare();
            return;
        }
        for (int[] next : instructions) {
            // Others with no place behind are looked at by BoundsTest.lastPlaceOfEachOrder.
            if (more > 1 || next[0] == 6 || next[0] == 8) {
                code.add(next);
                compareAll(more - 1);
                code.remove(code.size() - 1);
            }
        }
    }

    private void compare() {
        if (calls > CALLS_OF_ONE_OBJECT) {
            begin();
        }
        write();
        if (runs) {
            compareRun(Arrays.deepToString(code.toArray()));
        } else {
            compareGuard(Arrays.deepToString(code.toArray()));
        }
    }

    private void write() {
        guard.clear(body);
        for (Oracle.Declared p : oracle.parameters.get(body)) {
            guard.parameter(body, 0, p.c(), p.nullable(), p.state());
        }
        if (body == FUNCTION) {
            Oracle.Declared r = oracle.returned[0];
            guard.returns(0, r.c(), r.nullable(), r.state());
        }
        Check.write(guard, body, code.toArray(new int[0][]));
        calls += 3 + code.size();
    }

    private void compareGuard(String text) {
        Oracle.Seen[] seen = oracle.watch(body);
        boolean isGood = guard.good(body);
        Check.due(text + " good", isGood, seen != null);
        calls++;
        if (seen == null || !isGood) {
            return;
        }
        good++;
        for (int place = 0; place < seen.length; place++) {
            for (int local : locals) {
                for (int what = 0; what < 3; what++) {
                    Check.due(text + " holds", guard.holds(body, place, local, what), Oracle.tellHeld(seen[place], local, what));
                }
            }
            if (body == MAKER) {
                Check.due(text + " fields", guard.fields(body, place), Oracle.tellPut(seen[place]));
            }
            calls += 7;
        }
    }

    private void compareRun(String text) {
        guard.start(0);
        oracle.start(0);
        Check.due(text + " run", guard.run(1000), oracle.run(1000));
        boolean over = oracle.rooms.isEmpty();
        Oracle.Room upper = over ? null : oracle.rooms.get(oracle.rooms.size() - 1);
        Check.states(text, guard, oracle.status, oracle.steps, oracle.rooms.size(), over ? -1 : upper.body,
                over ? -1 : upper.place, oracle.things.size(), Oracle.numberOf(oracle.answer));
        calls += 9;
        ended += over ? 1 : 0;
    }
}
