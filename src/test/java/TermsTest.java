import java.util.ArrayList;
import java.util.List;

/**
 * The sentences of "Terms" that the guard keeps to, each with everything a local can hold: nothing, null
 * alone, or one of two classes with each nullness and each state.
 */
public final class TermsTest {
    private static final int ONE = 1;
    private static final int OTHER = 2;
    private static final int FIELD_CLASS = 3;
    private static final List<Holder.Held> ALL = Holder.all(ONE, OTHER);

    public static void main(String[] args) {
        copy();
        setNull();
        getLooksInto();
        putTakes();
        parameterFits();
        returnFits();
        stateOfNew();
        otherLocalsAreNoParameters();
        callHoldsAsDeclared();
        ifNull();
        twoWaysMeet();
        threeWaysMeet();
        waysGoOnFromThere();
        fieldsGoOnFromThere();
        fieldsOfTwoWaysMeet();
        makerReturns();
        Check.finish();
    }

    // "COPY: y holds something; x holds the same."
    private static void copy() {
        for (Holder.Held y : ALL) {
            Holder h = new Holder().hold(4, y).then(Check.copy(5, 4));
            int end = h.end();
            h.good("COPY of " + y, y.isSomething());
            if (y.isSomething()) {
                h.due("COPY of " + y, end, 5, y);
                h.due("COPY leaves " + y, end, 4, y);
            }
        }
    }

    // "NULL: x holds null, done, without a class."
    private static void setNull() {
        for (Holder.Held x : ALL) {
            Holder h = new Holder().hold(4, x).then(Check.setNull(4));
            h.due("NULL over " + x, h.end(), 4, Holder.NULL_ALONE);
        }
    }

    // "GET: y is not null; x holds the field's class; if y is done: not null or perhaps, as the field is
    // declared, and done; else perhaps null, either."
    private static void getLooksInto() {
        for (Holder.Held y : ALL) {
            for (int nullable = 0; nullable < 2; nullable++) {
                Holder h = new Holder();
                for (int k = 0; k < 4; k++) {
                    h.g.field(ONE, k, FIELD_CLASS, nullable == 1);
                    h.g.field(OTHER, k, FIELD_CLASS, nullable == 1);
                }
                h.hold(4, y).then(Check.get(5, 4, 3));
                int end = h.end();
                String what = "GET of " + y + ", nullable " + nullable;
                boolean may = y.isSomething() && y.nullness() == 0;
                h.good(what, may);
                if (may) {
                    h.due(what, end, 5, y.state() == 0 ? new Holder.Held(FIELD_CLASS, nullable, 0) : new Holder.Held(FIELD_CLASS, 1, 2));
                    h.due(what + ", y", end, 4, y);
                }
            }
        }
    }

    // "PUT: x is not null, y holds the field's class or none; it is not null, or the field is nullable;
    // and x is free, or y done or null (2)."
    private static void putTakes() {
        for (Holder.Held x : ALL) {
            for (Holder.Held y : ALL) {
                for (int nullable = 0; nullable < 2; nullable++) {
                    Holder h = new Holder();
                    h.g.field(ONE, 2, OTHER, nullable == 1);
                    h.g.field(OTHER, 2, OTHER, nullable == 1);
                    h.hold(4, x).hold(5, y).then(Check.put(4, 5, 2));
                    int end = h.end();
                    String what = "PUT of " + y + " to " + x + ", nullable " + nullable;
                    boolean may = mayPut(x, y, nullable == 1);
                    h.good(what, may);
                    if (may) {
                        h.due(what + ", x", end, 4, x);
                        h.due(what + ", y", end, 5, y);
                    }
                }
            }
        }
    }

    private static boolean mayPut(Holder.Held x, Holder.Held y, boolean nullable) {
        boolean rightX = x.c() >= 0 && x.nullness() == 0;
        boolean rightClass = y.c() == OTHER || y.c() == -1;
        boolean rightNull = y.nullness() == 0 || nullable;
        boolean rightState = x.state() == 1 || y.state() == 0 || y.isNull();
        return rightX && rightClass && rightNull && rightState;
    }

    // "the local holds the declared class or none, is not null or it is declared nullable, its state is
    // the declared one, or that is EITHER, or it is null (2)."
    private static boolean fits(Holder.Held held, int declaredState, boolean nullable) {
        boolean rightClass = held.c() == ONE || held.c() == -1;
        boolean rightNull = held.nullness() == 0 || nullable;
        boolean rightState = held.state() == declaredState || declaredState == 2 || held.isNull();
        return held.isSomething() && rightClass && rightNull && rightState;
    }

    // "NEW, CALL: all parameters FIT": the first, the second or the third of them is the one that may not.
    private static void parameterFits() {
        for (Holder.Held held : ALL) {
            for (int k = 0; k < 18; k++) {
                parameterFits(held, k % 3, k / 3 % 2 == 1, k / 6, 2);
                parameterFits(held, k % 3, k / 3 % 2 == 1, k / 6, 7);
            }
        }
    }

    private static void parameterFits(Holder.Held held, int state, boolean nullable, int which, int order) {
        Holder h = new Holder();
        for (int k = 0; k < 3; k++) {
            boolean isAsked = k == which;
            h.g.parameter(order == 2 ? 4 : 10, k, isAsked ? ONE : FIELD_CLASS, !isAsked || nullable, isAsked ? state : 0);
            h.hold(4 + k, isAsked ? held : Holder.NULL_ALONE);
        }
        h.then(new int[] {order, 3, 4, 4});
        h.end();
        h.good("parameter " + which + " of order " + order + ": " + held + " as " + state + ", nullable " + nullable,
                fits(held, state, nullable));
    }

    // "RETURN: of a function: x fits what is declared"
    private static void returnFits() {
        for (Holder.Held held : ALL) {
            for (int k = 0; k < 6; k++) {
                int state = k % 3;
                boolean nullable = k / 3 == 1;
                Holder h = new Holder().hold(4, held).then(Check.giveBack(4));
                h.g.returns(0, ONE, nullable, state);
                h.good("RETURN of " + held + " as " + state + ", nullable " + nullable, fits(held, state, nullable));
            }
        }
    }

    // "x holds, of NEW: the class, not null; done, if all parameters are done or null (2); free, if some
    // parameter is free and not null (0); else either"
    private static void stateOfNew() {
        List<Holder.Held> ofOne = new ArrayList<>(ALL);
        ofOne.removeIf(held -> held.c() == OTHER || held.c() == -2);
        for (Holder.Held a : ofOne) {
            newWith(a);
            for (Holder.Held b : ofOne) {
                newWith(a, b);
                for (Holder.Held c : ofOne) {
                    newWith(a, b, c);
                }
            }
        }
        newWith();
    }

    private static void newWith(Holder.Held... given) {
        Holder h = new Holder();
        boolean allDone = true;
        boolean oneFree = false;
        for (int k = 0; k < given.length; k++) {
            h.g.parameter(5, k, ONE, true, 2);
            h.hold(4 + k, given[k]);
            allDone &= given[k].state() == 0 || given[k].isNull();
            oneFree |= given[k].state() == 1 && given[k].nullness() == 0;
        }
        h.then(Check.make(3, 5, 4));
        h.due("NEW with " + List.of(given), h.end(), 3, new Holder.Held(5, 0, allDone ? 0 : oneFree ? 1 : 2));
    }

    // "with parameters of locals z, z + 1, ..": those just ahead and just behind are none
    private static void otherLocalsAreNoParameters() {
        for (int order : new int[] {2, 7}) {
            for (int has = 0; has <= 2; has++) {
                Holder h = new Holder().hold(6, new Holder.Held(OTHER, 0, 1)).then(Check.copy(3, 6), Check.copy(4 + has, 6));
                for (int k = 0; k < has; k++) {
                    h.g.parameter(order == 2 ? 5 : 11, k, ONE, false, 0);
                    h.hold(4 + k, new Holder.Held(ONE, 0, 0));
                }
                h.g.returns(5, 5, false, 0);
                h.then(new int[] {order, 7, 5, 4});
                h.due("order " + order + " with " + has + " parameters among free locals", h.end(), 7, new Holder.Held(5, 0, 0));
            }
        }
    }

    // "of CALL: as declared", whatever is given
    private static void callHoldsAsDeclared() {
        for (int k = 0; k < 36; k++) {
            for (int given = 0; given < 3; given++) {
                Holder h = new Holder();
                h.g.parameter(11, 0, ONE, false, 2);
                h.g.returns(5, k / 6, k % 2 == 0, k / 2 % 3);
                h.hold(4, new Holder.Held(ONE, 0, given)).then(Check.call(4, 5, 4));
                h.due("CALL", h.end(), 4, new Holder.Held(k / 6, k % 2 == 0 ? 1 : 0, k / 2 % 3));
            }
        }
    }

    // "IF NULL: x holds something; at place y it is null (its class and state stay; a way that comes there
    // although x is not null (0) is none), behind it not null (a way on although x is null (2) is none)."
    private static void ifNull() {
        for (Holder.Held x : ALL) {
            Holder h = new Holder().hold(4, x);
            int place = h.place();
            h.then(Check.ifNull(4, place + 2));
            int behind = h.end();
            int there = h.end();
            h.good("IF NULL of " + x, x.isSomething());
            if (x.isSomething()) {
                h.due("IF NULL of " + x + ", ahead", place, 4, x);
                h.due("IF NULL of " + x + ", there", there, 4, x.nullness() == 0 ? noWay() : new Holder.Held(x.c(), 2, x.state()));
                h.due("IF NULL of " + x + ", behind", behind, 4, x.isNull() ? noWay() : new Holder.Held(x.c(), 0, x.state()));
            }
        }
    }

    private static Holder.Held noWay() {
        return new Holder.Held(-3, -3, -3);
    }

    // "WHERE WAYS MEET, locals hold what all of them do: the same class (that of the others if one has
    // none; nothing if they differ), the nullness if they all agree, else 1, the state if they agree,
    // else 2; nothing if one of them has nothing."
    private static Holder.Held met(Holder.Held a, Holder.Held b) {
        if (!a.isSomething() || !b.isSomething() || a.c() != b.c() && a.c() != -1 && b.c() != -1) {
            return Holder.NOTHING;
        }
        return new Holder.Held(Math.max(a.c(), b.c()), a.nullness() == b.nullness() ? a.nullness() : 1,
                a.state() == b.state() ? a.state() : 2);
    }

    private static void twoWaysMeet() {
        for (Holder.Held a : ALL) {
            for (Holder.Held b : ALL) {
                Holder h = new Holder().hold(3, new Holder.Held(5, 1, 0)).hold(4, a).hold(5, b);
                int place = h.place();
                h.then(Check.ifNull(3, place + 3), move(6, 4, a), Check.go(place + 4), move(6, 5, b), Check.copy(7, 3));
                h.due("meeting of " + a + " and " + b, h.end(), 6, met(a, b));
            }
        }
    }

    /** What holds nothing cannot be copied: an instruction that does nothing to the local stands for it. */
    private static int[] move(int to, int from, Holder.Held held) {
        return held.isSomething() ? Check.copy(to, from) : Check.setNull(7);
    }

    // The same of three ways, of which the third comes from behind.
    private static void threeWaysMeet() {
        List<Holder.Held> some = List.of(Holder.NOTHING, Holder.NULL_ALONE, new Holder.Held(ONE, 0, 0), new Holder.Held(ONE, 2, 1),
                new Holder.Held(OTHER, 0, 0), new Holder.Held(OTHER, 1, 2));
        for (Holder.Held a : some) {
            for (Holder.Held b : some) {
                for (Holder.Held c : some) {
                    threeWaysMeet(a, b, c);
                }
            }
        }
    }

    private static void threeWaysMeet(Holder.Held a, Holder.Held b, Holder.Held c) {
        Holder h = new Holder().hold(3, a).hold(4, b).hold(5, c);
        int from = h.place();
        int meeting = from + 7;
        h.then(Check.call(7, 5, 0), Check.ifNull(7, from + 8), Check.call(7, 5, 0), Check.ifNull(7, from + 6), move(6, 3, a),
                Check.go(meeting), move(6, 4, b), Check.go(meeting), move(6, 5, c), Check.go(meeting));
        h.due("three ways " + a + ", " + b + ", " + c, meeting, 6, met(met(a, b), c));
    }

    // "Ways go on from there with that.": one way has gone on already when the other comes from behind,
    // and nothing but local 6 differs between them.
    private static void waysGoOnFromThere() {
        for (Holder.Held a : ALL) {
            for (Holder.Held b : ALL) {
                Holder h = new Holder().hold(3, new Holder.Held(5, 1, 0)).hold(4, a).hold(5, b);
                int from = h.place();
                h.then(Check.ifNull(3, from + 7), move(6, 4, a), Check.setNull(3), Check.setNull(7), Check.copy(3, 3), Check.copy(3, 3),
                        Check.go(from + 6), move(6, 5, b), Check.setNull(3), Check.setNull(7), Check.go(from + 4));
                for (int place = from + 4; place <= from + 6; place++) {
                    h.due("behind the meeting of " + a + " and " + b, place, 6, met(a, b));
                }
                h.due("ahead of the meeting of " + a + " and " + b, from + 10, 6, b);
            }
        }
    }

    // The same of fields: nothing else differs between the two ways.
    private static void fieldsGoOnFromThere() {
        for (int one = 0; one < 16; one++) {
            for (int other = 0; other < 16; other++) {
                MakerGuard g = new MakerGuard();
                g.parameter(3, 0, 0, true, 0);
                int meeting = 2 + Integer.bitCount(one);
                Check.write(g, 3, Check.ifNull(0, meeting + 3));
                putFields(g, one);
                Check.write(g, 3, Check.setNull(0), Check.copy(1, 0), Check.copy(1, 0), Check.giveBack(0));
                putFields(g, other);
                Check.write(g, 3, Check.setNull(0), Check.go(meeting));
                for (int place = meeting; place <= meeting + 2; place++) {
                    Check.due("fields behind the meeting of " + one + " and " + other, g.fields(3, place), one & other);
                }
            }
        }
    }

    // "Of fields that were PUT, those of all ways count."
    private static void fieldsOfTwoWaysMeet() {
        for (int one = 0; one < 16; one++) {
            for (int other = 0; other < 16; other++) {
                MakerGuard g = new MakerGuard();
                g.parameter(3, 0, 0, true, 0);
                int first = Integer.bitCount(one);
                int second = Integer.bitCount(other);
                Check.write(g, 3, Check.ifNull(0, first + 2));
                putFields(g, one);
                Check.write(g, 3, Check.go(first + 2 + second));
                putFields(g, other);
                Check.write(g, 3, Check.giveBack(0));
                Check.due("fields of " + one, g.fields(3, 1 + first), one);
                Check.due("fields of " + one + " and " + other, g.fields(3, first + 2 + second), one & other);
            }
        }
    }

    // "RETURN: ... of a maker: each field of its class that is not nullable was PUT to SELF on this way."
    private static void makerReturns() {
        for (int needed = 0; needed < 16; needed++) {
            for (int put = 0; put < 16; put++) {
                MakerGuard g = new MakerGuard();
                for (int k = 0; k < 4; k++) {
                    g.field(3, k, 0, (needed >> k & 1) == 0);
                }
                g.parameter(3, 0, 0, false, 0);
                putFields(g, put);
                Check.write(g, 3, Check.giveBack(6));
                Check.due("RETURN of a maker, needed " + needed + ", put " + put, g.good(3), (needed & ~put) == 0);
            }
        }
    }

    private static void putFields(MakerGuard g, int bits) {
        for (int k = 0; k < 4; k++) {
            if ((bits >> k & 1) == 1) {
                Check.write(g, 3, Check.put(7, 0, k));
            }
        }
    }
}
