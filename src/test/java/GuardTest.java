/** Promises 7, 8, 9 and 15: good, holds, fields, count. */
public final class GuardTest {
    private static final int NOTHING = -2;
    private static final int NO_WAY = -3;

    public static void main(String[] args) {
        placesMustBeThere();
        copyAndNull();
        selfIsNotWritten();
        getLooksIntoObjectsAlone();
        getOfWhatIsBeingMade();
        putAsksForClassAndNull();
        putAsksForState();
        parametersFit();
        parametersBehindTheLastLocal();
        stateOfNew();
        stateOfNewOfSeveral();
        ifNull();
        waysThatAreNone();
        waysMeet();
        nullsMeet();
        waysMeetInLoops();
        returnOfFunctions();
        returnOfMakers();
        fieldsOfAllWays();
        placesThatNoWayComesTo();
        verdictsFollowDeclarations();
        counts();
        Check.finish();
    }

    private static void placesMustBeThere() {
        good("no instruction", false, 6);
        good("GO to itself", true, 6, Check.go(0));
        good("GO behind the last", false, 6, Check.go(1));
        good("GO ahead of the first", false, 6, Check.go(-1));
        good("GO far away", false, 6, Check.go(Integer.MAX_VALUE));
        good("NULL at the end", false, 6, Check.setNull(0));
        good("COPY at the end", false, 6, Check.setNull(0), Check.copy(1, 0));
        good("NEW at the end", false, 6, Check.make(0, 0, 0));
        good("GET at the end", false, 6, Check.make(0, 0, 0), Check.get(1, 0, 0));
        good("PUT at the end", false, 6, Check.make(0, 0, 0), Check.put(0, 0, 0));
        good("CALL at the end", false, 6, Check.call(0, 0, 0));
        good("IF NULL at the end", false, 6, Check.setNull(0), Check.ifNull(0, 0));
        good("IF NULL to no place", false, 6, Check.make(0, 0, 0), Check.ifNull(0, 3), Check.giveBack(0));
        good("IF NULL to the last place", true, 6, Check.make(0, 0, 0), Check.ifNull(0, 2), Check.giveBack(0));
        good("IF NULL ahead of the first", false, 6, Check.make(0, 0, 0), Check.ifNull(0, -1), Check.giveBack(0));
        good("the end is never come to", true, 6, Check.go(0), Check.setNull(0));
    }

    private static void copyAndNull() {
        MakerGuard g = Check.of(6, Check.setNull(1), Check.copy(2, 1), Check.make(3, 4, 0), Check.copy(1, 3),
                Check.copy(3, 3), Check.go(5));
        Check.held("NULL", g, 6, 1, 1, -1, 2, 0);
        Check.held("COPY of null", g, 6, 2, 2, -1, 2, 0);
        Check.held("NEW", g, 6, 3, 3, 4, 0, 0);
        Check.held("COPY over null", g, 6, 4, 1, 4, 0, 0);
        Check.held("COPY of itself", g, 6, 5, 3, 4, 0, 0);
        Check.held("what stays", g, 6, 5, 2, -1, 2, 0);
        Check.held("nothing", g, 6, 5, 0, NOTHING, NOTHING, NOTHING);
        Check.held("nothing yet", g, 6, 0, 1, NOTHING, NOTHING, NOTHING);
        good("COPY of nothing", false, 6, Check.copy(0, 1), Check.go(1));
        good("COPY of nothing to itself", false, 6, Check.copy(0, 0), Check.go(1));
    }

    private static void selfIsNotWritten() {
        good("COPY to SELF", false, 0, Check.copy(7, 7), Check.giveBack(0));
        good("NULL to SELF", false, 0, Check.setNull(7), Check.giveBack(0));
        good("NEW to SELF", false, 0, Check.make(7, 0, 0), Check.giveBack(0));
        good("GET to SELF", false, 0, Check.get(7, 7, 0), Check.giveBack(0));
        good("CALL to SELF", false, 0, Check.call(7, 0, 0), Check.giveBack(0));
        good("COPY from SELF", true, 0, Check.copy(6, 7), Check.giveBack(0));
        good("PUT to SELF", true, 0, Check.put(7, 7, 0), Check.giveBack(0));
        good("IF NULL of SELF", true, 0, Check.ifNull(7, 0), Check.giveBack(0));
        good("local 7 of a function", true, 6, Check.setNull(7), Check.copy(7, 7), Check.make(7, 0, 0),
                Check.get(7, 7, 0), Check.call(7, 0, 0), Check.giveBack(7));
    }

    private static void getLooksIntoObjectsAlone() {
        good("GET of nothing", false, 6, Check.get(0, 1, 0), Check.go(1));
        good("GET of null", false, 6, Check.setNull(1), Check.get(0, 1, 0), Check.go(2));
        good("GET of perhaps null", false, 6, Check.call(1, 0, 0), Check.get(0, 1, 0), Check.go(2));
        good("PUT to nothing", false, 6, Check.setNull(1), Check.put(0, 1, 0), Check.go(2));
        good("PUT to null", false, 6, Check.setNull(1), Check.put(1, 1, 0), Check.go(2));
        good("PUT to perhaps null", false, 6, Check.call(1, 0, 0), Check.put(1, 1, 0), Check.go(2));
        good("GET behind IF NULL", true, 6, Check.call(1, 0, 0), Check.ifNull(1, 3), Check.get(0, 1, 0), Check.giveBack(1));
        good("GET where it is null", false, 6, Check.call(1, 0, 0), Check.ifNull(1, 3), Check.go(2), Check.get(0, 1, 0), Check.go(4));
    }

    private static void getOfWhatIsBeingMade() {
        for (int state = 0; state < 3; state++) {
            MakerGuard g = new MakerGuard();
            g.field(3, 2, 4, false);
            g.field(3, 1, 5, true);
            g.parameter(6, 0, 3, false, state);
            Check.write(g, 6, Check.get(1, 0, 2), Check.get(0, 0, 1), Check.go(2));
            Check.held("GET not nullable, state " + state, g, 6, 2, 1, 4, state == 0 ? 0 : 1, state == 0 ? 0 : 2);
            Check.held("GET nullable, state " + state, g, 6, 2, 0, 5, 1, state == 0 ? 0 : 2);
        }
    }

    private static void putAsksForClassAndNull() {
        // Of class 1, field 0 holds class 2 and is not nullable, field 1 is nullable; parameters: class 1, 2, 2 (nullable).
        for (int nullable = 0; nullable < 2; nullable++) {
            String field = "PUT to a field, nullable " + nullable + ", ";
            boolean may = nullable == 1;
            good(field + "its class", true, putter(Check.put(0, 1, nullable)));
            good(field + "another class", false, putter(Check.put(0, 0, nullable)));
            good(field + "perhaps null", may, putter(Check.put(0, 2, nullable)));
            good(field + "nothing", false, putter(Check.put(0, 3, nullable)));
            good(field + "null", may, putter(Check.setNull(3), Check.put(0, 3, nullable)));
            good(field + "null of its class", may, putter(Check.ifNull(2, 2), Check.go(1), Check.put(0, 2, nullable)));
            good(field + "not null behind", true, putter(Check.ifNull(2, 2), Check.put(0, 2, nullable)));
        }
    }

    private static MakerGuard putter(int[]... instructions) {
        MakerGuard g = new MakerGuard();
        g.field(1, 0, 2, false);
        g.field(1, 1, 2, true);
        g.parameter(6, 0, 1, false, 0);
        g.parameter(6, 1, 2, false, 0);
        g.parameter(6, 2, 2, true, 0);
        Check.write(g, 6, instructions);
        g.add(6, 6, 0, instructions.length, 0);
        return g;
    }

    private static void putAsksForState() {
        for (int x = 0; x < 3; x++) {
            for (int y = 0; y < 3; y++) {
                MakerGuard g = new MakerGuard();
                g.parameter(6, 0, 0, false, x);
                g.parameter(6, 1, 0, false, y);
                g.parameter(6, 2, 0, true, y);
                Check.write(g, 6, Check.put(0, 1, 0), Check.put(0, 2, 0), Check.go(2));
                good("PUT of state " + y + " to " + x, x == 1 || y == 0, g);
                g.clear(6);
                g.parameter(6, 0, 0, false, x);
                g.parameter(6, 1, 0, true, y);
                Check.write(g, 6, Check.ifNull(1, 2), Check.go(1), Check.put(0, 1, 0), Check.go(3));
                good("PUT of null of state " + y + " to " + x, true, g);
            }
        }
    }

    private static void parametersFit() {
        for (int target = 0; target < 2; target++) {
            for (int state = 0; state < 3; state++) {
                for (int declared = 0; declared < 3; declared++) {
                    String what = (target == 0 ? "NEW" : "CALL") + " with state " + state + " as " + declared + ", ";
                    boolean fits = state == declared || declared == 2;
                    good(what + "not null", fits, caller(target, 1, false, state, declared, false, false));
                    good(what + "nullable", fits, caller(target, 1, false, state, declared, true, false));
                    good(what + "perhaps null as nullable", fits, caller(target, 1, true, state, declared, true, false));
                    good(what + "perhaps null as not", false, caller(target, 1, true, state, declared, false, false));
                    good(what + "another class", false, caller(target, 2, false, state, declared, false, false));
                    good(what + "null as nullable", true, caller(target, 1, true, state, declared, true, true));
                    good(what + "null as not", false, caller(target, 1, true, state, declared, false, true));
                    good(what + "null of another class", false, caller(target, 2, true, state, declared, true, true));
                }
            }
        }
        good("NEW with nothing", false, withParameter(0, Check.make(0, 0, 1), Check.go(1)));
        good("NEW with null alone", true, withParameter(0, Check.setNull(1), Check.make(0, 0, 1), Check.go(2)));
        good("CALL with nothing", false, withParameter(7, Check.call(0, 1, 1), Check.go(1)));
        good("CALL with null alone", true, withParameter(7, Check.setNull(1), Check.call(0, 1, 1), Check.go(2)));
    }

    /** Function 0 gives its parameter (class c) on to maker 0 or function 1, that is declared of class 1. */
    private static MakerGuard caller(int target, int c, boolean perhaps, int state, int declared, boolean nullable,
            boolean onlyNull) {
        MakerGuard g = new MakerGuard();
        g.parameter(target == 0 ? 0 : 7, 0, 1, nullable, declared);
        g.parameter(6, 0, c, perhaps, state);
        int[] give = target == 0 ? Check.make(1, 0, 0) : Check.call(1, 1, 0);
        if (onlyNull) {
            Check.write(g, 6, Check.ifNull(0, 2), Check.go(1), give, Check.go(3));
        } else {
            Check.write(g, 6, give, Check.go(1));
        }
        return g;
    }

    /** Body target has a nullable parameter of class 3, that is to be free; function 0 has the instructions. */
    private static MakerGuard withParameter(int target, int[]... instructions) {
        MakerGuard g = new MakerGuard();
        g.parameter(target, 0, 3, true, 1);
        Check.write(g, 6, instructions);
        return g;
    }

    private static void parametersBehindTheLastLocal() {
        MakerGuard g = new MakerGuard();
        for (int k = 0; k < 3; k++) {
            g.parameter(0, k, 0, true, 0);
        }
        Check.write(g, 7, Check.setNull(5), Check.setNull(6), Check.setNull(7), Check.make(0, 0, 5), Check.go(4));
        good("the last three locals", true, g, 7);
        Check.write(g, 8, Check.setNull(5), Check.setNull(6), Check.setNull(7), Check.make(0, 0, 6), Check.go(4));
        good("one behind", false, g, 8);
        Check.write(g, 9, Check.setNull(7), Check.call(0, 4, 7), Check.go(2));
        good("local 7 and no parameter", true, g, 9);
    }

    private static void stateOfNew() {
        int[][] due = {{0, 0, 0}, {1, 2, 0}, {2, 2, 0}};
        for (int state = 0; state < 3; state++) {
            for (int nullness = 0; nullness < 3; nullness++) {
                MakerGuard g = new MakerGuard();
                g.parameter(4, 0, 1, true, 2);
                g.parameter(7, 0, 1, nullness != 0, state);
                Check.write(g, 7, nullness == 2 ? Check.ifNull(0, 2) : Check.go(2), Check.go(1),
                        Check.make(0, 4, 0), Check.go(3));
                Check.held("NEW with state " + state + ", nullness " + nullness, g, 7, 3, 0, 4, 0, due[state][nullness]);
            }
        }
        MakerGuard g = Check.of(6, Check.make(0, 5, 0), Check.go(1));
        Check.held("NEW without parameters", g, 6, 1, 0, 5, 0, 0);
    }

    private static void stateOfNewOfSeveral() {
        int[][] due = {{0, 1, 2}, {1, 1, 1}, {2, 1, 2}};
        for (int one = 0; one < 3; one++) {
            for (int other = 0; other < 3; other++) {
                MakerGuard g = new MakerGuard();
                for (int k = 0; k < 2; k++) {
                    g.parameter(4, k, 1, true, 2);
                    g.parameter(7, k, 1, false, k == 0 ? one : other);
                }
                Check.write(g, 7, Check.make(1, 4, 0), Check.go(1));
                Check.held("NEW with states " + one + " and " + other, g, 7, 1, 1, 4, 0, due[one][other]);
            }
        }
    }

    private static void ifNull() {
        for (int state = 0; state < 3; state++) {
            MakerGuard g = new MakerGuard();
            g.parameter(6, 0, 5, true, state);
            Check.write(g, 6, Check.ifNull(0, 2), Check.go(1), Check.go(2));
            Check.held("IF NULL: there", g, 6, 2, 0, 5, 2, state);
            Check.held("IF NULL: behind", g, 6, 1, 0, 5, 0, state);
        }
        MakerGuard g = new MakerGuard();
        g.parameter(6, 0, 5, true, 1);
        Check.write(g, 6, Check.ifNull(0, 1), Check.go(1));
        Check.held("IF NULL to the place behind", g, 6, 1, 0, 5, 1, 1);
        good("IF NULL of nothing", false, 6, Check.ifNull(0, 1), Check.go(1));
    }

    private static void waysThatAreNone() {
        MakerGuard g = Check.of(6, Check.make(0, 1, 0), Check.ifNull(0, 3), Check.go(2), Check.go(3));
        Check.held("not null: there", g, 6, 3, 0, NO_WAY, NO_WAY, NO_WAY);
        Check.held("not null: behind", g, 6, 2, 0, 1, 0, 0);
        g = Check.of(6, Check.setNull(0), Check.ifNull(0, 3), Check.go(2), Check.go(3));
        Check.held("null: there", g, 6, 3, 0, -1, 2, 0);
        Check.held("null: behind", g, 6, 2, 0, NO_WAY, NO_WAY, NO_WAY);
        good("null is looked into where no way comes", true, 6, Check.setNull(0), Check.ifNull(0, 3), Check.get(1, 0, 0), Check.giveBack(0));
        good("the same with another place", false, 6, Check.setNull(0), Check.ifNull(0, 2), Check.get(1, 0, 0), Check.giveBack(0));
    }

    private static void waysMeet() {
        meeting("null and an object", Check.setNull(1), Check.make(1, 3, 0), 3, 1, 0);
        meeting("an object and null", Check.make(1, 3, 0), Check.setNull(1), 3, 1, 0);
        meeting("two nulls", Check.setNull(1), Check.setNull(1), -1, 2, 0);
        meeting("two objects", Check.make(1, 3, 0), Check.make(1, 3, 0), 3, 0, 0);
        meeting("two classes", Check.make(1, 3, 0), Check.make(1, 4, 0), NOTHING, NOTHING, NOTHING);
        meeting("nothing and null", Check.setNull(2), Check.setNull(1), NOTHING, NOTHING, NOTHING);
        meeting("null and nothing", Check.setNull(1), Check.setNull(2), NOTHING, NOTHING, NOTHING);
        meeting("done and free", Check.make(1, 3, 0), Check.copy(1, 7), 3, 0, 2);
        meeting("null and free", Check.setNull(1), Check.copy(1, 7), 3, 1, 2);
        meeting("free and free", Check.copy(1, 7), Check.copy(1, 7), 3, 0, 1);
        meeting("either and done", Check.get(1, 7, 0), Check.make(1, 0, 0), 0, 1, 2);
        meeting("perhaps and null", Check.call(1, 0, 0), Check.setNull(1), 0, 1, 0);
    }

    private static void nullsMeet() {
        for (int order = 0; order < 2; order++) {
            MakerGuard g = new MakerGuard();
            g.parameter(6, 0, 5, true, 0);
            g.parameter(6, 1, 4, true, 0);
            int[] alone = Check.setNull(2);
            int[] ofClass = Check.copy(2, 0);
            Check.write(g, 6, Check.ifNull(0, 2), Check.go(1), Check.ifNull(1, 5), order == 0 ? alone : ofClass, Check.go(6),
                    order == 0 ? ofClass : alone, Check.go(6));
            Check.held("null alone and null of a class", g, 6, 6, 2, 5, 2, 0);
        }
    }

    /** Of maker 3: local 1 is set on two ways, that meet at place 5. */
    private static void meeting(String what, int[] one, int[] other, int... due) {
        MakerGuard g = new MakerGuard();
        g.parameter(3, 0, 5, true, 0);
        // NEW of class 3 is done with this parameter, as are makers without one.
        Check.write(g, 3, Check.ifNull(0, 3), one, Check.go(4), other, Check.copy(5, 0), Check.giveBack(0));
        Check.held("meet: " + what, g, 3, 5, 1, due);
        Check.held("meet: the parameter is as before", g, 3, 5, 0, 5, 1, 0);
    }

    private static void waysMeetInLoops() {
        MakerGuard g = new MakerGuard();
        g.parameter(6, 0, 0, false, 0);
        Check.write(g, 6, Check.setNull(1), Check.copy(0, 0), Check.get(1, 0, 0), Check.go(1));
        Check.held("what goes round", g, 6, 1, 1, 0, 1, 0);
        Check.held("what goes round, further on", g, 6, 2, 1, 0, 1, 0);
        good("a list is walked", true, walker(Check.ifNull(0, 3)));
        good("a list is walked blindly", false, walker(Check.go(1)));
        g = Check.of(6, Check.setNull(1), Check.go(0));
        Check.held("back at place 0, of what it begins with", g, 6, 0, 1, NOTHING, NOTHING, NOTHING);
        Check.held("back at place 0, behind", g, 6, 1, 1, -1, 2, 0);
        g = backwards();
        Check.held("a change that goes back place by place", g, 6, 1, 0, 0, 1, 0);
        Check.held("the same at the last", g, 6, 39, 0, 0, 1, 0);
    }

    private static MakerGuard walker(int[] first) {
        MakerGuard g = new MakerGuard();
        g.parameter(6, 0, 0, true, 0);
        Check.write(g, 6, first, Check.get(0, 0, 0), Check.go(0), Check.giveBack(0));
        return g;
    }

    /** Goes from place 39 down to place 4, gets another value at place 2, and goes round again. */
    private static MakerGuard backwards() {
        MakerGuard g = new MakerGuard();
        Check.write(g, 6, Check.setNull(0), Check.go(39), Check.call(0, 0, 0), Check.go(1));
        for (int place = 4; place < 40; place++) {
            g.add(6, 6, 0, place == 4 ? 2 : place - 1, 0);
        }
        return g;
    }

    private static void returnOfFunctions() {
        for (int state = 0; state < 3; state++) {
            for (int declared = 0; declared < 3; declared++) {
                String what = "RETURN of state " + state + " as " + declared + ", ";
                boolean fits = state == declared || declared == 2;
                good(what + "not null", fits, returner(false, state, false, declared, 1));
                good(what + "perhaps as nullable", fits, returner(true, state, true, declared, 1));
                good(what + "perhaps as not", false, returner(true, state, false, declared, 1));
                good(what + "another class", false, returner(false, state, true, declared, 2));
            }
        }
        good("RETURN of nothing", false, 6, Check.giveBack(0));
        good("RETURN of null", true, 6, Check.setNull(0), Check.giveBack(0));
        MakerGuard g = Check.of(6, Check.setNull(0), Check.giveBack(0));
        g.returns(0, 5, true, 1);
        good("RETURN of null as free", true, g);
        g.returns(0, 5, false, 1);
        good("RETURN of null as not nullable", false, g);
    }

    private static MakerGuard returner(boolean perhaps, int state, boolean nullable, int declared, int c) {
        MakerGuard g = new MakerGuard();
        g.parameter(6, 0, 1, perhaps, state);
        g.returns(0, c, nullable, declared);
        Check.write(g, 6, Check.giveBack(0));
        return g;
    }

    private static void returnOfMakers() {
        MakerGuard g = new MakerGuard();
        g.field(2, 1, 2, false);
        g.field(2, 3, 2, false);
        Check.write(g, 2, Check.put(7, 7, 1), Check.giveBack(5));
        good("one of two fields", false, g, 2);
        g.clear(2);
        Check.write(g, 2, Check.put(7, 7, 3), Check.put(7, 7, 1), Check.giveBack(5));
        good("both fields", true, g, 2);
        g.clear(2);
        Check.write(g, 2, Check.put(7, 7, 1), Check.copy(0, 7), Check.put(0, 7, 3), Check.giveBack(5));
        good("one by another local", false, g, 2);
        g.clear(2);
        Check.write(g, 2, Check.go(0));
        good("no RETURN at all", true, g, 2);
        g.clear(2);
        g.parameter(2, 0, 2, true, 1);
        Check.write(g, 2, Check.put(7, 7, 1), Check.ifNull(0, 4), Check.put(7, 0, 3), Check.giveBack(0), Check.giveBack(0));
        good("both fields on one way alone", false, g, 2);
        g = new MakerGuard();
        g.parameter(0, 0, 0, true, 0);
        Check.write(g, 0, Check.ifNull(0, 5), Check.setNull(0), Check.put(7, 7, 0), Check.copy(0, 0), Check.giveBack(0),
                Check.setNull(0), Check.go(3));
        Check.due("ways that differ in fields alone, the second one late", g.fields(0, 4), 0);
        g.field(0, 0, 0, false);
        good("ways that differ in fields alone, the second one late", false, g, 0);
    }

    private static void fieldsOfAllWays() {
        MakerGuard g = new MakerGuard();
        g.parameter(5, 0, 0, true, 0);
        Check.write(g, 5, Check.put(7, 0, 0), Check.ifNull(0, 5), Check.put(7, 0, 1), Check.put(7, 0, 2), Check.go(7),
                Check.put(7, 0, 2), Check.put(7, 0, 3), Check.giveBack(0), Check.go(8));
        int[] due = {0, 1, 1, 3, 7, 1, 5, 5, -1};
        for (int place = 0; place < due.length; place++) {
            Check.due("fields at " + place, g.fields(5, place), due[place]);
        }
        g = Check.of(0, Check.put(7, 7, 0), Check.put(7, 7, 3), Check.go(1));
        Check.due("fields in a loop", g.fields(0, 1), 1);
        Check.due("fields in a loop, behind", g.fields(0, 2), 9);
        g = Check.of(0, Check.put(7, 7, 2), Check.go(0));
        Check.due("fields back at place 0", g.fields(0, 0), 0);
        g = Check.of(0, Check.copy(0, 7), Check.put(0, 7, 2), Check.go(2));
        Check.due("fields PUT to another local", g.fields(0, 2), 0);
    }

    private static void placesThatNoWayComesTo() {
        MakerGuard g = Check.of(0, Check.giveBack(0), Check.get(7, 3, 0), Check.copy(1, 2));
        good("what no way comes to does not matter", true, g, 0);
        for (int place = 1; place < 3; place++) {
            Check.held("no way", g, 0, place, 7, NO_WAY, NO_WAY, NO_WAY);
            Check.due("no way: fields", g.fields(0, place), MakerGuard.NONE);
        }
    }

    private static void verdictsFollowDeclarations() {
        MakerGuard g = Check.of(6, Check.make(0, 1, 0), Check.get(1, 0, 0), Check.get(2, 1, 0), Check.giveBack(2));
        good("a field that may be null", false, g);
        g.field(1, 0, 2, false);
        good("that may not", true, g);
        good("the maker of another body does not matter", false, g, 1);
        g.parameter(1, 0, 0, true, 0);
        good("a parameter that it gives nothing for", false, g);
        g.clear(1);
        good("the parameter is gone", true, g);
        g.field(2, 0, 3, true);
        good("RETURN of another class", false, g);
        g.returns(0, 3, true, 0);
        good("as declared", true, g);
        Check.held("two bodies in turn", g, 6, 1, 0, 1, 0, 0);
        Check.write(g, 3, Check.giveBack(0));
        Check.held("two bodies in turn", g, 3, 0, 7, 3, 0, 1);
        Check.held("two bodies in turn", g, 6, 2, 1, 2, 0, 0);
        Check.due("two bodies in turn", g.fields(3, 0), 0);
        Check.held("two bodies in turn", g, 6, 1, 0, 1, 0, 0);
        Check.held("two bodies in turn", g, 3, 0, 7, 3, 0, 1);
        Check.held("two bodies in turn", g, 3, 0, 0, NOTHING, NOTHING, NOTHING);
    }

    private static void counts() {
        MakerGuard g = new MakerGuard();
        for (int body = 0; body < 12; body++) {
            Check.due("count(1)", g.count(1), body);
            Check.write(g, body, Check.go(0), Check.go(9));
            Check.due("count(0)", g.count(0), 2 * body + 2);
        }
        Check.due("count(1)", g.count(1), 12);
        g.clear(4);
        Check.due("count(0)", g.count(0), 22);
        Check.due("count(1)", g.count(1), 11);
        Check.write(g, 4, Check.go(1));
        Check.due("count(1) with one that is not good", g.count(1), 11);
        Check.due("count(0) with one that is not good", g.count(0), 23);
    }

    private static void good(String what, boolean due, int body, int[]... instructions) {
        good(what, due, Check.of(body, instructions), body);
    }

    private static void good(String what, boolean due, MakerGuard g) {
        good(what, due, g, 6);
    }

    private static void good(String what, boolean due, MakerGuard g, int body) {
        Check.due(what + ": good", g.good(body), due);
    }
}
