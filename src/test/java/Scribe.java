import java.util.ArrayList;
import java.util.List;
import java.util.Random;

/** Writes random bodies, the same ones for the same seed, into an Oracle, and from there into a MakerGuard. */
final class Scribe {
    private final Random random;

    Scribe(long seed) {
        random = new Random(seed);
    }

    int below(int bound) {
        return random.nextInt(bound);
    }

    /** Few classes, so that things often fit. */
    Oracle declare(int classes) {
        Oracle o = new Oracle();
        for (int c = 0; c < 6; c++) {
            for (int k = 0; k < 4; k++) {
                o.fields[c][k] = new Oracle.Declared(below(classes), below(2) == 0, 0);
            }
            o.returned[c] = declared(classes);
        }
        for (int body = 0; body < 12; body++) {
            for (int k = below(5) - 1; k > 0; k--) {
                o.parameters.get(body).add(declared(classes));
            }
        }
        return o;
    }

    private Oracle.Declared declared(int classes) {
        return new Oracle.Declared(below(classes), below(2) == 0, below(3));
    }

    /** Keeps the busiest good body of those tried, or the last one if none is good; answers whether one is. */
    boolean writeGood(Oracle o, int body, int classes, int tries) {
        List<int[]> best = null;
        int most = -1;
        for (int k = 0; k < tries; k++) {
            writeAny(o, body, classes);
            int busy = busyPlaces(o, body);
            if (busy > most) {
                most = busy;
                best = new ArrayList<>(o.code.get(body));
            }
        }
        if (best != null) {
            o.code.set(body, best);
        }
        return best != null;
    }

    /** How many places that ways come to do more than copy and go; -1 if the body is not good. */
    private static int busyPlaces(Oracle o, int body) {
        Oracle.Seen[] seen = o.watch(body);
        if (seen == null) {
            return -1;
        }
        int busy = 0;
        for (int place = 0; place < seen.length; place++) {
            int order = o.code.get(body).get(place)[0];
            if (seen[place] != null && order > 1 && order != 6) {
                busy += order == 8 ? 3 : 1;
            }
        }
        return busy;
    }

    void writeAny(Oracle o, int body, int classes) {
        List<int[]> code = o.code.get(body);
        code.clear();
        int size = 1 + below(below(8) == 0 ? 40 : 9);
        if (body < 6 && below(2) == 0) {
            putFields(o, body, code);
        }
        while (code.size() < size - 1) {
            code.add(instruction(size, classes, body));
        }
        code.add(below(4) == 0 ? new int[] {6, 0, below(size), 0} : new int[] {8, local(body), 0, 0});
    }

    private void putFields(Oracle o, int body, List<int[]> code) {
        for (int k = 0; k < 4; k++) {
            if (!o.fields[body][k].nullable()) {
                int c = o.fields[body][k].c();
                int y = c == body && below(2) == 0 ? 7 : 3;
                if (y == 3) {
                    code.add(new int[] {2, 3, c, below(4)});
                }
                code.add(new int[] {4, 7, y, k});
            }
        }
    }

    private int[] instruction(int size, int classes, int body) {
        int order = below(16) == 0 ? 8 : below(8);
        int x = local(body);
        switch (order) {
            case 2:
            case 7:
                return new int[] {order, x, below(classes), below(10) == 0 ? below(8) : below(4)};
            case 3:
            case 4:
                return new int[] {order, x, local(body), below(4)};
            case 5:
            case 6:
                return new int[] {order, x, below(12) == 0 ? below(60) - 10 : below(size), 0};
            default:
                return new int[] {order, x, local(body), 0};
        }
    }

    private int local(int body) {
        int k = below(12);
        return k < 9 ? k % 3 : k < 11 ? 7 : below(8);
    }

    /** Into a new object, the bodies in the order given; answers how many calls that took. */
    int hand(Oracle o, MakerGuard g, List<Integer> bodies) {
        int calls = 0;
        for (int c = 0; c < 6; c++) {
            Oracle.Declared r = o.returned[c];
            g.returns(c, r.c(), r.nullable(), r.state());
            for (int k = 0; k < 4; k++) {
                g.field(c, k, o.fields[c][k].c(), o.fields[c][k].nullable());
            }
            calls += 5;
        }
        for (int body : bodies) {
            for (int k = 0; k < o.parameters.get(body).size(); k++) {
                Oracle.Declared p = o.parameters.get(body).get(k);
                Check.due("parameter", g.parameter(body, k, p.c(), p.nullable(), p.state()), k + 1);
                calls++;
            }
            for (int[] i : o.code.get(body)) {
                g.add(body, i[0], i[1], i[2], i[3]);
                calls++;
            }
        }
        return calls;
    }

    List<Integer> bodiesInSomeOrder() {
        List<Integer> bodies = new ArrayList<>();
        for (int body = 0; body < 12; body++) {
            bodies.add(below(body + 1), body);
        }
        return bodies;
    }
}
