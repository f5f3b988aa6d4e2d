import java.util.function.Supplier;

/**
 * Tells all that can be seen of an object, now and by later calls. Each look has a copy of its own,
 * so that no object is used for more than 512 calls.
 */
final class Witness {
    private static final int PLACES = 12;

    private final StringBuilder text = new StringBuilder();

    private Witness() {
    }

    /** The copies are all made alike, by at most 100 calls. */
    static String of(Supplier<MakerGuard> copies) {
        Witness witness = new Witness();
        witness.lookAtRun(copies.get());
        witness.lookAtVerdicts(copies.get());
        for (int body = 0; body < 12; body++) {
            witness.lookAtSights(copies.get(), body);
        }
        witness.lookAtSizes(copies.get());
        witness.lookAtFields(copies.get());
        witness.lookAtReturns(copies.get());
        return witness.text.toString();
    }

    private void tell(MakerGuard g, Check.Ask ask) {
        text.append(' ').append(Check.told(g, ask));
    }

    private void lookAtRun(MakerGuard g) {
        text.append(" run:");
        tellRun(g);
        for (int o = 0; o < 40; o++) {
            int number = o;
            for (int k = 0; k < 5; k++) {
                int field = k;
                tell(g, x -> x.object(number, field));
            }
        }
        tell(g, x -> x.run(1));
        tellRun(g);
        tell(g, x -> x.run(1000));
        tellRun(g);
    }

    private void tellRun(MakerGuard g) {
        for (int k = 0; k < 8; k++) {
            int number = k;
            tell(g, x -> x.state(number));
            tell(g, x -> x.local(number));
        }
    }

    private void lookAtVerdicts(MakerGuard g) {
        text.append(" verdicts:");
        tell(g, x -> x.count(0));
        tell(g, x -> x.count(1));
        for (int body = 0; body < 12; body++) {
            int number = body;
            tell(g, x -> x.good(number) ? 1 : 0);
        }
    }

    private void lookAtSights(MakerGuard g, int body) {
        text.append(" sights of ").append(body).append(':');
        for (int p = 0; p < PLACES; p++) {
            int place = p;
            tell(g, x -> x.fields(body, place));
            for (int k = 0; k < 24; k++) {
                int number = k;
                tell(g, x -> x.holds(body, place, number / 3, number % 3));
            }
        }
    }

    /** Sizes come last: they are seen by what clear() answers. */
    private void lookAtSizes(MakerGuard g) {
        text.append(" sizes:");
        for (int body = 0; body < 12; body++) {
            int number = body;
            for (int k = 2; k >= 0; k--) {
                int parameter = k;
                tell(g, x -> x.parameter(number, parameter, 0, true, 0));
            }
            tell(g, x -> x.clear(number));
        }
    }

    private void lookAtFields(MakerGuard g) {
        text.append(" fields:");
        for (int c = 0; c < 6; c++) {
            g.clear(c);
            g.clear(6);
            Check.write(g, 6, Check.make(0, c, 0), Check.get(1, 0, 0), Check.get(2, 0, 1), Check.get(3, 0, 2),
                    Check.get(4, 0, 3), Check.go(5));
            for (int k = 0; k < 12; k++) {
                int number = k;
                tell(g, x -> x.holds(6, 5, 1 + number / 3, number % 3));
            }
        }
    }

    /** Null alone fits each parameter that is nullable. */
    private void lookAtReturns(MakerGuard g) {
        text.append(" returns:");
        g.clear(0);
        Check.write(g, 0, Check.setNull(0), Check.setNull(1), Check.setNull(2));
        for (int f = 0; f < 6; f++) {
            Check.write(g, 0, Check.call(3, f, 0));
        }
        Check.write(g, 0, Check.go(9));
        for (int k = 0; k < 18; k++) {
            int number = k;
            tell(g, x -> x.holds(0, 4 + number / 3, 3, number % 3));
        }
    }
}
