import java.util.List;

/** What the guard is for: where all bodies are good, no run ever looks into null, nor leaves its places. */
public final class SoundTest {
    private static final int PROGRAMS = 1500;

    private static int looks = 0;

    public static void main(String[] args) {
        int written = 0;
        for (int seed = 0; seed < PROGRAMS; seed++) {
            written += runGoodBodies(new Scribe(1_000_000 + seed));
        }
        System.out.println(written + " good bodies of " + 12 * PROGRAMS + ", " + looks + " runs that looked into objects");
        Check.due("enough bodies were found", written > 4 * PROGRAMS, true);
        Check.due("enough runs did something", looks > PROGRAMS / 4, true);
        Check.finish();
    }

    private static int runGoodBodies(Scribe scribe) {
        int classes = 1 + scribe.below(3);
        Oracle oracle = scribe.declare(classes);
        int found = 0;
        for (int body = 0; body < 12; body++) {
            if (scribe.writeGood(oracle, body, classes, 60)) {
                found++;
            } else {
                oracle.code.get(body).clear();
                oracle.code.get(body).add(new int[] {6, 0, 0, 0});
            }
        }
        MakerGuard guard = new MakerGuard();
        scribe.hand(oracle, guard, List.of(0, 1, 2, 3, 4, 5, 6, 7, 8, 9, 10, 11));
        Check.due("all are good", guard.count(1), 12);
        for (int function = 0; function < 6; function++) {
            if (oracle.parameters.get(6 + function).isEmpty()) {
                guard.start(function);
                guard.run(1000);
                int status = guard.state(0);
                Check.due("trouble 2 or 5", status == 2 || status == 5, false);
                looks += guard.state(5) > 0 && guard.state(1) > 5 ? 1 : 0;
            }
        }
        return found;
    }
}
