/** Random bodies: every answer of the guard and of the machine is the Oracle's. */
public final class OracleTest {
    private static final int PROGRAMS = 1500;
    private static final int CALLS = 512;

    private static int goodBodies = 0;
    private static int ended = 0;

    private final Scribe scribe;
    private final int classes;
    private final Oracle oracle;
    private final MakerGuard guard = new MakerGuard();
    private int calls;

    private OracleTest(long seed) {
        scribe = new Scribe(seed);
        classes = 1 + scribe.below(4);
        oracle = scribe.declare(classes);
    }

    public static void main(String[] args) {
        for (int seed = 0; seed < PROGRAMS; seed++) {
            new OracleTest(seed).compare();
        }
        System.out.println(goodBodies + " bodies were good, " + ended + " runs ended");
        Check.due("enough bodies are good for the comparison to tell something", goodBodies > PROGRAMS, true);
        Check.due("enough runs end", ended > PROGRAMS / 10, true);
        Check.finish();
    }

    private void compare() {
        for (int body = 0; body < 12; body++) {
            scribe.writeGood(oracle, body, classes, 1 + scribe.below(30));
        }
        calls = scribe.hand(oracle, guard, scribe.bodiesInSomeOrder());
        int good = 0;
        for (int body = 0; body < 12; body++) {
            if (calls < CALLS / 2) {
                compareGuard(body);
            }
            good += oracle.watch(body) == null ? 0 : 1;
        }
        goodBodies += good;
        if (calls < CALLS - 2) {
            Check.due("count(1)", guard.count(1), good);
            calls++;
        }
        for (int function = 0; function < 6; function++) {
            if (oracle.parameters.get(6 + function).isEmpty() && calls < CALLS - 100) {
                compareRun(function);
            }
        }
    }

    private void compareGuard(int body) {
        Oracle.Seen[] seen = oracle.watch(body);
        Check.due("good " + body, guard.good(body), seen != null);
        calls++;
        if (seen == null) {
            return;
        }
        for (int k = 0; k < 12; k++) {
            int place = scribe.below(seen.length);
            int local = scribe.below(3) == 0 ? scribe.below(8) : scribe.below(3);
            int what = scribe.below(3);
            Check.due("holds " + body + " " + place + " " + local + " " + what, guard.holds(body, place, local, what),
                    Oracle.tellHeld(seen[place], local, what));
            calls++;
            if (body < 6) {
                Check.due("fields " + body + " " + place, guard.fields(body, place), Oracle.tellPut(seen[place]));
                calls++;
            }
        }
    }

    private void compareRun(int function) {
        guard.start(function);
        oracle.start(function);
        calls++;
        for (int round = 0; round < 3; round++) {
            int n = scribe.below(4) == 0 ? scribe.below(1001) : scribe.below(12);
            Check.due("run", guard.run(n), oracle.run(n));
            compareState();
            calls += 1 + 7 + 8 + 10;
        }
        ended += oracle.status == 1 ? 1 : 0;
    }

    private void compareState() {
        boolean over = oracle.rooms.isEmpty();
        Oracle.Room upper = over ? null : oracle.rooms.get(oracle.rooms.size() - 1);
        int[] due = {oracle.status, oracle.steps, oracle.rooms.size(), over ? -1 : upper.body, over ? -1 : upper.place,
            oracle.things.size(), Oracle.numberOf(oracle.answer)};
        for (int what = 0; what < 7; what++) {
            Check.due("state " + what, guard.state(what), due[what]);
        }
        for (int k = 0; k < 8 && !over; k++) {
            Check.due("local " + k, guard.local(k), Oracle.numberOf(upper.locals[k]));
        }
        for (int k = 0; k < 10 && !oracle.things.isEmpty(); k++) {
            Oracle.Thing thing = oracle.things.get(scribe.below(oracle.things.size()));
            int field = scribe.below(5);
            Check.due("object", guard.object(thing.number, field), field == 4 ? thing.c : Oracle.numberOf(thing.fields[field]));
        }
    }
}
