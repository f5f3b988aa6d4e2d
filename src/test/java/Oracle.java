import java.util.ArrayList;
import java.util.List;
import java.util.Objects;
import java.util.Set;
import java.util.TreeSet;

/**
 * A second and plainer telling of the document, for comparison alone: each round makes what is seen
 * at all places anew from all ways that come there, until nothing changes.
 */
final class Oracle {
    record Declared(int c, boolean nullable, int state) {
    }

    record Held(int c, int nullness, int state) {
    }

    record Seen(List<Held> locals, Set<Integer> put) {
    }

    record Way(int to, Seen seen) {
    }

    static final class Thing {
        final int number;
        final int c;
        final Thing[] fields = new Thing[4];

        Thing(int number, int c) {
            this.number = number;
            this.c = c;
        }
    }

    static final class Room {
        final int body;
        final Thing[] locals = new Thing[8];
        final Thing made;
        int place = 0;

        Room(int body, Thing made) {
            this.body = body;
            this.made = made;
            locals[7] = made;
        }
    }

    final Declared[][] fields = new Declared[6][4];
    final Declared[] returned = new Declared[6];
    final List<List<Declared>> parameters = new ArrayList<>();
    final List<List<int[]>> code = new ArrayList<>();

    final List<Room> rooms = new ArrayList<>();
    final List<Thing> things = new ArrayList<>();
    int status;
    int steps;
    Thing answer;

    Oracle() {
        for (int c = 0; c < 6; c++) {
            returned[c] = new Declared(0, true, 0);
            for (int k = 0; k < 4; k++) {
                fields[c][k] = new Declared(0, true, 0);
            }
        }
        for (int body = 0; body < 12; body++) {
            parameters.add(new ArrayList<>());
            code.add(new ArrayList<>());
        }
    }

    /** What is seen at each place (null: no way comes there); null if the body is not good. */
    Seen[] watch(int body) {
        int size = code.get(body).size();
        Seen[] seen = new Seen[size];
        if (size == 0) {
            return null;
        }
        for (boolean more = true; more; ) {
            List<List<Seen>> coming = new ArrayList<>();
            for (int place = 0; place < size; place++) {
                coming.add(new ArrayList<>());
            }
            coming.get(0).add(beginning(body));
            for (int place = 0; place < size; place++) {
                List<Way> ways = seen[place] == null ? List.of() : waysBehind(body, place, seen[place]);
                if (ways == null) {
                    return null;
                }
                ways.forEach(w -> coming.get(w.to).add(w.seen));
            }
            more = false;
            for (int place = 0; place < size; place++) {
                Seen met = meet(coming.get(place));
                more |= !Objects.equals(met, seen[place]);
                seen[place] = met;
            }
        }
        return seen;
    }

    /** What holds() has to answer of what is seen. */
    static int tellHeld(Seen seen, int local, int what) {
        if (seen == null) {
            return -3;
        }
        Held held = seen.locals.get(local);
        if (held == null) {
            return -2;
        }
        return what == 0 ? held.c : what == 1 ? held.nullness : held.state;
    }

    /** What fields() has to answer of what is seen. */
    static int tellPut(Seen seen) {
        if (seen == null) {
            return -1;
        }
        int bits = 0;
        for (int k : seen.put) {
            bits |= 1 << k;
        }
        return bits;
    }

    static int numberOf(Thing thing) {
        return thing == null ? -1 : thing.number;
    }

    private Seen beginning(int body) {
        List<Held> locals = new ArrayList<>();
        for (int k = 0; k < 8; k++) {
            locals.add(k < parameters.get(body).size() ? asDeclared(parameters.get(body).get(k)) : null);
        }
        if (body < 6) {
            locals.set(7, new Held(body, 0, 1));
        }
        return new Seen(locals, new TreeSet<>());
    }

    private static Held asDeclared(Declared d) {
        return new Held(d.c, d.nullable ? 1 : 0, d.state);
    }

    private static Seen meet(List<Seen> all) {
        if (all.isEmpty()) {
            return null;
        }
        List<Held> locals = new ArrayList<>();
        for (int k = 0; k < 8; k++) {
            List<Held> held = new ArrayList<>();
            for (Seen one : all) {
                held.add(one.locals.get(k));
            }
            locals.add(meetHeld(held));
        }
        Set<Integer> put = new TreeSet<>(all.get(0).put);
        all.forEach(one -> put.retainAll(one.put));
        return new Seen(locals, put);
    }

    private static Held meetHeld(List<Held> held) {
        if (held.contains(null)) {
            return null;
        }
        Set<Integer> classes = new TreeSet<>();
        Set<Integer> nullness = new TreeSet<>();
        Set<Integer> states = new TreeSet<>();
        for (Held one : held) {
            classes.add(one.c);
            nullness.add(one.nullness);
            states.add(one.state);
        }
        if (classes.size() > 1) {
            classes.remove(-1);
        }
        if (classes.size() > 1) {
            return null;
        }
        return new Held(only(classes, -9), only(nullness, 1), only(states, 2));
    }

    private static int only(Set<Integer> set, int otherwise) {
        return set.size() == 1 ? set.iterator().next() : otherwise;
    }

    /** The ways behind an instruction; null if it cannot be done. */
    private List<Way> waysBehind(int body, int place, Seen seen) {
        int[] i = code.get(body).get(place);
        int size = code.get(body).size();
        boolean jumps = i[0] == 5 || i[0] == 6;
        boolean goesOn = i[0] != 6 && i[0] != 8;
        if (jumps && (i[2] < 0 || i[2] >= size) || goesOn && place + 1 >= size) {
            return null;
        }
        Held x = i[0] == 6 ? null : seen.locals.get(i[1]);
        if (i[0] == 6) {
            return List.of(new Way(i[2], seen));
        }
        if (i[0] == 8) {
            boolean may = body < 6 ? allPut(body, seen.put) : fits(x, returned[body - 6]);
            return may ? List.of() : null;
        }
        if (i[0] == 5) {
            return x == null ? null : bothWays(i, place, seen, x);
        }
        if (i[0] == 4) {
            return putWay(body, i, place, seen, x);
        }
        Held result = resultOf(i, seen);
        if (result == null || body < 6 && i[1] == 7) {
            return null;
        }
        return List.of(new Way(place + 1, with(seen, i[1], result)));
    }

    private boolean allPut(int body, Set<Integer> put) {
        for (int k = 0; k < 4; k++) {
            if (!fields[body][k].nullable && !put.contains(k)) {
                return false;
            }
        }
        return true;
    }

    private static List<Way> bothWays(int[] i, int place, Seen seen, Held x) {
        List<Way> ways = new ArrayList<>();
        if (x.nullness > 0) {
            ways.add(new Way(i[2], with(seen, i[1], new Held(x.c, 2, x.state))));
        }
        if (x.nullness < 2) {
            ways.add(new Way(place + 1, with(seen, i[1], new Held(x.c, 0, x.state))));
        }
        return ways;
    }

    private List<Way> putWay(int body, int[] i, int place, Seen seen, Held x) {
        Held y = seen.locals.get(i[2]);
        if (x == null || y == null || x.c == -1 || x.nullness != 0) {
            return null;
        }
        Declared field = fields[x.c][i[3]];
        boolean rightClass = y.c == -1 || y.c == field.c;
        boolean rightNull = y.nullness == 0 || field.nullable;
        boolean rightState = x.state == 1 || y.state == 0 || y.nullness == 2;
        if (!rightClass || !rightNull || !rightState) {
            return null;
        }
        Set<Integer> put = new TreeSet<>(seen.put);
        if (body < 6 && i[1] == 7) {
            put.add(i[3]);
        }
        return List.of(new Way(place + 1, new Seen(seen.locals, put)));
    }

    private Held resultOf(int[] i, Seen seen) {
        switch (i[0]) {
            case 0:
                return seen.locals.get(i[2]);
            case 1:
                return new Held(-1, 2, 0);
            case 3: {
                Held y = seen.locals.get(i[2]);
                if (y == null || y.c == -1 || y.nullness != 0) {
                    return null;
                }
                Declared field = fields[y.c][i[3]];
                return y.state == 0 ? asDeclared(field) : new Held(field.c, 1, 2);
            }
            case 2: {
                List<Held> given = given(parameters.get(i[2]), i[3], seen);
                return given == null ? null : new Held(i[2], 0, stateOfNew(given));
            }
            default:
                return given(parameters.get(6 + i[2]), i[3], seen) == null ? null : asDeclared(returned[i[2]]);
        }
    }

    private static List<Held> given(List<Declared> asked, int first, Seen seen) {
        List<Held> given = new ArrayList<>();
        for (Declared d : asked) {
            int local = first + given.size();
            if (local > 7 || !fits(seen.locals.get(local), d)) {
                return null;
            }
            given.add(seen.locals.get(local));
        }
        return given;
    }

    private static int stateOfNew(List<Held> given) {
        if (given.stream().allMatch(h -> h.state == 0 || h.nullness == 2)) {
            return 0;
        }
        return given.stream().anyMatch(h -> h.state == 1 && h.nullness == 0) ? 1 : 2;
    }

    private static boolean fits(Held held, Declared d) {
        return held != null && (held.c == -1 || held.c == d.c) && (d.nullable || held.nullness == 0)
                && (held.state == d.state || d.state == 2 || held.nullness == 2);
    }

    private static Seen with(Seen seen, int local, Held held) {
        List<Held> locals = new ArrayList<>(seen.locals);
        locals.set(local, held);
        return new Seen(locals, seen.put);
    }

    void start(int function) {
        rooms.clear();
        things.clear();
        rooms.add(new Room(6 + function, null));
        status = 0;
        steps = 0;
        answer = null;
    }

    int run(int n) {
        int done = 0;
        while (done < n && status == 0) {
            status = step();
            if (status < 2) {
                done++;
            }
        }
        steps += done;
        return done;
    }

    private int step() {
        Room room = rooms.get(rooms.size() - 1);
        if (room.place < 0 || room.place >= code.get(room.body).size()) {
            return 5;
        }
        int[] i = code.get(room.body).get(room.place);
        switch (i[0]) {
            case 0:
                room.locals[i[1]] = room.locals[i[2]];
                break;
            case 1:
                room.locals[i[1]] = null;
                break;
            case 2:
            case 7:
                return enter(room, i);
            case 3:
                if (room.locals[i[2]] == null) {
                    return 2;
                }
                room.locals[i[1]] = room.locals[i[2]].fields[i[3]];
                break;
            case 4:
                if (room.locals[i[1]] == null) {
                    return 2;
                }
                room.locals[i[1]].fields[i[3]] = room.locals[i[2]];
                break;
            case 8:
                return leave(room, i);
            default:
                if (i[0] == 6 || room.locals[i[1]] == null) {
                    room.place = i[2];
                    return 0;
                }
        }
        room.place++;
        return 0;
    }

    private int enter(Room room, int[] i) {
        if (i[0] == 2 && things.size() == 60) {
            return 3;
        }
        if (rooms.size() == 20) {
            return 4;
        }
        Thing made = null;
        if (i[0] == 2) {
            made = new Thing(things.size(), i[2]);
            things.add(made);
        }
        Room next = new Room(i[0] == 2 ? i[2] : 6 + i[2], made);
        for (int k = 0; k < parameters.get(next.body).size(); k++) {
            next.locals[k] = i[3] + k < 8 ? room.locals[i[3] + k] : null;
        }
        rooms.add(next);
        return 0;
    }

    private int leave(Room room, int[] i) {
        Thing value = room.body < 6 ? room.made : room.locals[i[1]];
        rooms.remove(rooms.size() - 1);
        if (rooms.isEmpty()) {
            answer = value;
            return 1;
        }
        Room caller = rooms.get(rooms.size() - 1);
        caller.locals[code.get(caller.body).get(caller.place)[1]] = value;
        caller.place++;
        return 0;
    }
}
