/** Promises 10 to 14: start, run, state, local, object. */
public final class MachineTest {
    public static void main(String[] args) {
        startBegins();
        startAnew();
        everyOrderIsAStep();
        runStopsWhereToldTo();
        makersRunInFrames();
        makerMayLoseItsSelf();
        functionsAreCalled();
        parametersAreGiven();
        parametersBehindTheLastLocalAreNull();
        localsAreNullAtFirst();
        fieldsOfEveryClass();
        nothingIsLookedAt();
        fieldOfNull();
        sixtyFirstObject();
        twentyFirstFrame();
        objectAheadOfFrame();
        placeNotThere();
        troubleStays();
        end();
        Check.finish();
    }

    private static void startBegins() {
        MakerGuard g = Check.of(8, Check.setNull(0), Check.giveBack(0));
        g.start(2);
        Check.states("started", g, 0, 0, 1, 8, 0, 0, -1);
        for (int k = 0; k < 8; k++) {
            Check.due("started: local " + k, g.local(k), -1);
        }
        Check.refused("no object", g, Check.NO_SUCH, x -> x.object(0, 0));
        g.parameter(8, 0, 0, true, 0);
        Check.refused("start with parameters", g, Check.STATE, x -> x.start(2));
    }

    private static void startAnew() {
        MakerGuard g = Check.of(6, Check.make(3, 1, 0), Check.put(3, 3, 0), Check.giveBack(3));
        Check.write(g, 1, Check.giveBack(0));
        g.start(0);
        g.run(1000);
        Check.states("first run", g, 1, 4, 0, -1, -1, 1, 0);
        g.start(0);
        Check.states("second run", g, 0, 0, 1, 6, 0, 0, -1);
        Check.due("its local", g.local(3), -1);
        Check.refused("its objects", g, Check.NO_SUCH, x -> x.object(0, 0));
        g.run(2);
        Check.due("a field is null again", g.object(0, 0), -1);
    }

    private static void everyOrderIsAStep() {
        MakerGuard g = Check.of(6, Check.make(0, 2, 0), Check.copy(1, 0), Check.put(1, 0, 3), Check.setNull(0),
                Check.get(2, 1, 3), Check.ifNull(2, 0), Check.ifNull(0, 8), Check.go(0), Check.go(9), Check.call(4, 1, 0),
                Check.giveBack(2));
        Check.write(g, 2, Check.giveBack(0));
        Check.write(g, 7, Check.giveBack(0));
        g.start(0);
        int[] bodies = {2, 6, 6, 6, 6, 6, 6, 6, 6, 7, 6};
        int[] places = {0, 1, 2, 3, 4, 5, 6, 8, 9, 0, 10};
        for (int k = 0; k < places.length; k++) {
            Check.due("step " + k, g.run(1), 1);
            Check.due("body behind step " + k, g.state(3), bodies[k]);
            Check.due("place behind step " + k, g.state(4), places[k]);
            Check.due("steps behind step " + k, g.state(1), k + 1);
        }
        int[] locals = {-1, 0, 0, -1, -1, -1, -1, -1};
        for (int k = 0; k < 8; k++) {
            Check.due("local " + k, g.local(k), locals[k]);
        }
        Check.due("field 3", g.object(0, 3), 0);
        Check.due("field 0", g.object(0, 0), -1);
        Check.due("class", g.object(0, 4), 2);
        Check.due("the last step", g.run(1000), 1);
        Check.states("ended", g, 1, 12, 0, -1, -1, 1, 0);
    }

    private static void runStopsWhereToldTo() {
        MakerGuard g = Check.of(6, Check.go(0));
        g.start(0);
        Check.due("run(0)", g.run(0), 0);
        Check.due("run(1000)", g.run(1000), 1000);
        Check.due("run(7)", g.run(7), 7);
        Check.states("runs on", g, 0, 1007, 1, 6, 0, 0, -1);
    }

    private static void makersRunInFrames() {
        MakerGuard g = Check.of(6, Check.make(5, 0, 0), Check.giveBack(5));
        Check.write(g, 0, Check.make(2, 1, 0), Check.put(7, 2, 1), Check.giveBack(2));
        Check.write(g, 1, Check.setNull(3), Check.giveBack(3));
        g.start(0);
        g.run(1);
        Check.states("in the first maker", g, 0, 1, 2, 0, 0, 1, -1);
        Check.due("SELF", g.local(7), 0);
        g.run(1);
        Check.states("in the second maker", g, 0, 2, 3, 1, 0, 2, -1);
        Check.due("SELF", g.local(7), 1);
        g.run(2);
        Check.states("back in the first maker", g, 0, 4, 2, 0, 1, 2, -1);
        Check.due("what was made", g.local(2), 1);
        g.run(2);
        Check.states("back in the function", g, 0, 6, 1, 6, 1, 2, -1);
        Check.due("a maker gives its object, not its local", g.local(5), 0);
        Check.due("field 1", g.object(0, 1), 1);
        Check.due("class of 0", g.object(0, 4), 0);
        Check.due("class of 1", g.object(1, 4), 1);
    }

    private static void makerMayLoseItsSelf() {
        MakerGuard g = Check.of(6, Check.make(0, 3, 0), Check.make(1, 4, 0), Check.giveBack(1));
        Check.write(g, 3, Check.setNull(7), Check.giveBack(7));
        Check.write(g, 4, Check.make(7, 3, 0), Check.giveBack(7));
        g.start(0);
        Check.due("steps", g.run(1000), 9);
        Check.due("what was returned", g.state(6), 1);
        Check.due("its class", g.object(1, 4), 4);
        Check.due("objects", g.state(5), 3);
    }

    private static void functionsAreCalled() {
        MakerGuard g = Check.of(6, Check.make(0, 0, 0), Check.call(0, 1, 0), Check.giveBack(0));
        Check.write(g, 0, Check.giveBack(0));
        Check.write(g, 7, Check.setNull(6), Check.giveBack(6));
        g.start(0);
        g.run(3);
        Check.states("called", g, 0, 3, 2, 7, 0, 1, -1);
        Check.due("rest", g.run(1000), 3);
        Check.states("a null was returned", g, 1, 6, 0, -1, -1, 1, -1);
    }

    private static void parametersAreGiven() {
        MakerGuard g = Check.of(6, Check.make(3, 0, 0), Check.make(4, 1, 0), Check.make(5, 2, 3), Check.call(0, 1, 3), Check.giveBack(0));
        for (int k = 0; k < 3; k++) {
            g.parameter(2, k, 0, true, 0);
        }
        g.parameter(7, 0, 0, true, 0);
        g.parameter(7, 1, 0, true, 0);
        Check.write(g, 0, Check.giveBack(0));
        Check.write(g, 1, Check.giveBack(0));
        Check.write(g, 2, Check.giveBack(0));
        Check.write(g, 7, Check.giveBack(1));
        g.start(0);
        g.run(5);
        int[] made = {0, 1, -1, -1, -1, -1, -1, 2};
        for (int k = 0; k < 8; k++) {
            Check.due("local of the maker " + k, g.local(k), made[k]);
        }
        g.run(2);
        int[] called = {0, 1, -1, -1, -1, -1, -1, -1};
        for (int k = 0; k < 8; k++) {
            Check.due("local of the function " + k, g.local(k), called[k]);
        }
        g.run(2);
        Check.due("what was returned", g.state(6), 1);
    }

    private static void parametersBehindTheLastLocalAreNull() {
        MakerGuard g = Check.of(6, Check.make(6, 0, 0), Check.copy(7, 6), Check.call(0, 1, 6), Check.call(0, 1, 7), Check.giveBack(0));
        Check.write(g, 0, Check.giveBack(0));
        Check.write(g, 7, Check.giveBack(0));
        for (int k = 0; k < 3; k++) {
            g.parameter(7, k, 0, true, 0);
        }
        g.start(0);
        g.run(4);
        Check.due("local 6", g.local(0), 0);
        Check.due("local 7", g.local(1), 0);
        Check.due("behind", g.local(2), -1);
        g.run(2);
        Check.due("local 7", g.local(0), 0);
        Check.due("behind", g.local(1), -1);
        Check.due("further behind", g.local(2), -1);
    }

    private static void localsAreNullAtFirst() {
        MakerGuard g = Check.of(6, Check.make(0, 0, 0), Check.call(1, 1, 0), Check.call(1, 1, 0), Check.giveBack(1));
        Check.write(g, 0, Check.giveBack(0));
        Check.write(g, 7, Check.ifNull(3, 2), Check.go(1), Check.make(3, 0, 0), Check.copy(7, 3), Check.giveBack(3));
        g.start(0);
        Check.due("a frame used again begins with nulls", g.run(1000), 15);
        Check.due("ended", g.state(0), 1);
        Check.due("what was returned", g.state(6), 2);
    }

    private static void fieldsOfEveryClass() {
        MakerGuard g = new MakerGuard();
        for (int c = 0; c < 6; c++) {
            Check.write(g, c, Check.giveBack(0));
            Check.write(g, 6, Check.make(c, c, 0));
        }
        for (int c = 0; c < 6; c++) {
            for (int k = 0; k < 4; k++) {
                Check.write(g, 6, Check.put(c, (c + k) % 6, k));
            }
        }
        g.start(0);
        Check.due("steps", g.run(1000), 36);
        for (int c = 0; c < 6; c++) {
            Check.due("class", g.object(c, 4), c);
            for (int k = 0; k < 4; k++) {
                Check.due("field", g.object(c, k), (c + k) % 6);
            }
        }
    }

    private static void nothingIsLookedAt() {
        MakerGuard g = Check.of(6, Check.make(0, 0, 0), Check.make(1, 1, 0), Check.put(0, 1, 2), Check.get(7, 0, 2), Check.giveBack(7));
        g.field(0, 2, 5, false);
        g.returns(0, 4, false, 1);
        Check.write(g, 0, Check.giveBack(0));
        Check.write(g, 1, Check.giveBack(0));
        Check.due("not good", g.good(6), false);
        g.start(0);
        Check.due("it runs all the same", g.run(1000), 7);
        Check.due("what was returned", g.state(6), 1);
    }

    private static void fieldOfNull() {
        MakerGuard g = Check.of(6, Check.setNull(0), Check.get(1, 0, 0), Check.giveBack(1));
        g.start(0);
        Check.due("GET", g.run(1000), 1);
        Check.states("GET", g, 2, 1, 1, 6, 1, 0, -1);
        g = Check.of(6, Check.make(1, 0, 0), Check.put(0, 1, 0), Check.giveBack(1));
        Check.write(g, 0, Check.giveBack(0));
        g.start(0);
        Check.due("PUT", g.run(1000), 2);
        Check.states("PUT", g, 2, 2, 1, 6, 1, 1, -1);
        Check.due("locals stay", g.local(1), 0);
        g = Check.of(6, Check.make(1, 0, 0), Check.put(1, 0, 0), Check.get(1, 1, 0), Check.giveBack(1));
        Check.write(g, 0, Check.giveBack(0));
        g.start(0);
        Check.due("PUT of null, GET of null", g.run(1000), 5);
        Check.due("what was returned", g.state(6), -1);
    }

    private static void sixtyFirstObject() {
        MakerGuard g = Check.of(6, Check.make(0, 0, 0), Check.go(0));
        Check.write(g, 0, Check.giveBack(0));
        g.start(0);
        Check.due("steps", g.run(180), 180);
        Check.states("sixty", g, 0, 180, 1, 6, 0, 60, -1);
        Check.due("a sixty-first", g.run(1), 0);
        Check.states("a sixty-first", g, 3, 180, 1, 6, 0, 60, -1);
        Check.due("local 0", g.local(0), 59);
        Check.due("the last object", g.object(59, 4), 0);
        Check.refused("the next one", g, Check.NO_SUCH, x -> x.object(60, 4));
    }

    private static void twentyFirstFrame() {
        MakerGuard g = Check.of(6, Check.call(0, 0, 0), Check.giveBack(0));
        g.start(0);
        Check.due("steps", g.run(19), 19);
        Check.states("twenty", g, 0, 19, 20, 6, 0, 0, -1);
        Check.due("a twenty-first", g.run(1), 0);
        Check.states("a twenty-first", g, 4, 19, 20, 6, 0, 0, -1);
        g = Check.of(6, Check.make(0, 0, 0), Check.giveBack(0));
        Check.write(g, 0, Check.make(0, 0, 0), Check.giveBack(0));
        g.start(0);
        Check.due("steps of makers", g.run(1000), 19);
        Check.states("a twenty-first of a maker", g, 4, 19, 20, 0, 0, 19, -1);
        Check.due("SELF", g.local(7), 18);
        Check.refused("no object was made", g, Check.NO_SUCH, x -> x.object(19, 4));
    }

    /** First 41 objects, then one more with each of 19 makers in one another. */
    private static void objectAheadOfFrame() {
        MakerGuard g = Check.of(6, Check.make(0, 3, 0));
        for (int k = 0; k < 20; k++) {
            Check.write(g, 6, Check.make(0, 1, 0));
        }
        Check.write(g, 6, Check.make(0, 2, 0));
        Check.write(g, 1, Check.make(0, 3, 0), Check.giveBack(0));
        Check.write(g, 2, Check.make(0, 2, 0));
        Check.write(g, 3, Check.giveBack(0));
        g.start(0);
        Check.due("steps", g.run(1000), 2 + 20 * 4 + 19);
        Check.states("no room for an object, nor for a frame", g, 3, 101, 20, 2, 0, 60, -1);
    }

    private static void placeNotThere() {
        MakerGuard g = new MakerGuard();
        g.start(5);
        Check.states("an empty body", g, 0, 0, 1, 11, 0, 0, -1);
        Check.due("run(0)", g.run(0), 0);
        Check.due("not yet", g.state(0), 0);
        Check.due("run(1)", g.run(1), 0);
        Check.states("an empty body", g, 5, 0, 1, 11, 0, 0, -1);
        g = Check.of(6, Check.setNull(0));
        g.start(0);
        Check.due("over the end", g.run(9), 1);
        Check.states("over the end", g, 5, 1, 1, 6, 1, 0, -1);
        for (int place : new int[] {-1, 1, 40, Integer.MIN_VALUE, Integer.MAX_VALUE}) {
            g = Check.of(6, Check.go(place));
            g.start(0);
            Check.due("GO away", g.run(9), 1);
            Check.states("GO away", g, 5, 1, 1, 6, place, 0, -1);
            g = Check.of(6, Check.ifNull(0, place));
            g.start(0);
            Check.due("IF NULL away", g.run(9), 1);
            Check.states("IF NULL away", g, 5, 1, 1, 6, place, 0, -1);
        }
        g = Check.of(6, Check.make(0, 3, 0));
        g.start(0);
        Check.due("into an empty maker", g.run(9), 1);
        Check.states("into an empty maker", g, 5, 1, 2, 3, 0, 1, -1);
        Check.due("SELF", g.local(7), 0);
    }

    private static void troubleStays() {
        MakerGuard g = Check.of(6, Check.get(0, 0, 0));
        g.start(0);
        for (int k = 0; k < 3; k++) {
            Check.due("run", g.run(5), 0);
            Check.due("trouble", g.state(0), 2);
        }
        g.start(0);
        Check.due("started anew", g.state(0), 0);
    }

    private static void end() {
        MakerGuard g = Check.of(6, Check.make(0, 0, 0), Check.giveBack(0));
        Check.write(g, 0, Check.giveBack(0));
        g.start(0);
        Check.due("all but the last", g.run(2), 2);
        Check.due("nothing is returned yet", g.state(6), -1);
        Check.due("the last", g.run(1), 1);
        Check.states("ended", g, 1, 3, 0, -1, -1, 1, 0);
        Check.due("no more", g.run(1000), 0);
        Check.states("ended", g, 1, 3, 0, -1, -1, 1, 0);
        Check.refused("no locals", g, Check.NO_SUCH, x -> x.local(0));
        Check.due("but objects", g.object(0, 4), 0);
    }
}
