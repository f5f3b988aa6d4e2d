/** The bounds of a run that the document names: steps, objects, frames, places, and what stays when trouble stops it. */
public final class RunBoundsTest {
    private static final int RUNS = 0;
    private static final int ENDED = 1;

    public static void main(String[] args) {
        startOfEachFunction();
        startNeedsNoParameters();
        startBeginsAnewWhateverWas();
        stepsUpToTheEnd();
        stepsUpToTrouble();
        manySteps();
        statesOfEachStage();
        localsOfTheUpperFrame();
        objectsOneByOne();
        sixtyObjects();
        twentyFrames();
        framesAreGivenBack();
        troubleLeavesAllAsItWas();
        troubleInAMaker();
        emptyBodies();
        declaringEndsTheRun();
        askingLeavesTheRun();
        Check.finish();
    }

    // "A run of a function begins."
    private static void startOfEachFunction() {
        MakerGuard g = new MakerGuard();
        for (int function = 0; function < 6; function++) {
            g.start(function);
            Check.states("start " + function, g, RUNS, 0, 1, 6 + function, 0, 0, -1);
        }
    }

    // "IllegalStateException: it has parameters."
    private static void startNeedsNoParameters() {
        for (int function = 0; function < 6; function++) {
            MakerGuard g = new MakerGuard();
            int number = function;
            g.parameter((6 + function + 1) % 12, 0, 0, true, 0);
            g.start(function);
            for (int k = 0; k < 3; k++) {
                g.parameter(6 + function, k, 0, true, 0);
                Check.refused("start with " + (k + 1) + " parameters", g, Check.STATE, x -> x.start(number));
            }
            g.clear(6 + function);
            g.start(function);
            Check.due("start behind clear", g.state(3), 6 + function);
        }
    }

    private static void startBeginsAnewWhateverWas() {
        int[] steps = {0, 1, 2, 3, 1000};
        for (int k = 0; k < steps.length; k++) {
            MakerGuard g = Check.of(6, Check.make(2, 0, 0), Check.put(2, 2, 1), k < 4 ? Check.giveBack(2) : Check.get(0, 0, 0));
            Check.write(g, 0, Check.giveBack(0));
            g.start(0);
            g.run(steps[k]);
            g.start(5);
            Check.states("another run", g, RUNS, 0, 1, 11, 0, 0, -1);
            Check.due("its locals are null", g.local(2), -1);
            Check.refused("it has no objects", g, Check.NO_SUCH, x -> x.object(0, 4));
            g.start(0);
            g.run(1);
            Check.due("fields are null at first", g.object(0, 1), -1);
        }
    }

    // "At most so many steps: how many were done." One less, just as many and one more than there are
    private static void stepsUpToTheEnd() {
        for (int places : new int[] {1, 2, 40}) {
            for (int n : new int[] {0, places - 1, places, places + 1, 1000}) {
                MakerGuard g = nullsAndReturn(places);
                g.start(0);
                int done = Math.min(n, places);
                Check.due("run " + n + " of " + places, g.run(n), done);
                Check.due("ended", g.state(0), done == places ? ENDED : RUNS);
                Check.due("steps", g.state(1), done);
                Check.due("the rest", g.run(1000), places - done);
                Check.due("no more", g.run(1000), 0);
                Check.due("no more by one", g.run(1), 0);
                Check.states("ended", g, ENDED, places, 0, -1, -1, 0, -1);
            }
        }
    }

    private static MakerGuard nullsAndReturn(int places) {
        MakerGuard g = new MakerGuard();
        for (int k = 1; k < places; k++) {
            g.add(6, 1, 0, 0, 0);
        }
        g.add(6, 8, 0, 0, 0);
        return g;
    }

    // "(the instruction does nothing then, and is no step ...)": it is met by the step behind the last one that is done
    private static void stepsUpToTrouble() {
        for (int n = 0; n < 5; n++) {
            MakerGuard g = Check.of(6, Check.setNull(1), Check.setNull(2), Check.setNull(3), Check.get(0, 0, 0), Check.giveBack(0));
            g.start(0);
            Check.due("run " + n, g.run(n), Math.min(n, 3));
            Check.due("trouble of run " + n, g.state(0), n > 3 ? 2 : 0);
            Check.due("place of run " + n, g.state(4), Math.min(n, 3));
            Check.due("run(0) meets none", g.run(0), 0);
            Check.due("trouble of run " + n, g.state(0), n > 3 ? 2 : 0);
            g.run(1000);
            Check.states("stopped", g, 2, 3, 1, 6, 3, 0, -1);
            Check.due("no more", g.run(1000), 0);
            Check.states("stopped", g, 2, 3, 1, 6, 3, 0, -1);
        }
    }

    // "n is not 0 .. 1000", call by call
    private static void manySteps() {
        MakerGuard g = Check.of(6, Check.go(0));
        g.start(0);
        int[] steps = {0, 1, 2, 999, 1000};
        int all = 0;
        for (int n : steps) {
            Check.due("run " + n, g.run(n), n);
            all += n;
            Check.due("steps", g.state(1), all);
        }
        Check.refused("run -1", g, Check.ARGUMENT, x -> x.run(-1));
        Check.refused("run 1001", g, Check.ARGUMENT, x -> x.run(1001));
        Check.due("steps", g.state(1), all);
    }

    private static void statesOfEachStage() {
        MakerGuard g = Check.of(6, Check.make(0, 5, 0), Check.call(1, 5, 0), Check.giveBack(0));
        Check.write(g, 5, Check.make(0, 4, 0), Check.giveBack(0));
        Check.write(g, 4, Check.giveBack(0));
        Check.write(g, 11, Check.giveBack(7));
        g.start(0);
        int[][] due = {{0, 0, 1, 6, 0, 0, -1}, {0, 1, 2, 5, 0, 1, -1}, {0, 2, 3, 4, 0, 2, -1}, {0, 3, 2, 5, 1, 2, -1},
            {0, 4, 1, 6, 1, 2, -1}, {0, 5, 2, 11, 0, 2, -1}, {0, 6, 1, 6, 2, 2, -1}, {1, 7, 0, -1, -1, 2, 0}};
        for (int k = 0; k < due.length; k++) {
            Check.states("behind " + k + " steps", g, due[k]);
            Check.due("one step", g.run(1), k < due.length - 1 ? 1 : 0);
        }
    }

    // "A local of the upper frame: an object, or NONE."
    private static void localsOfTheUpperFrame() {
        MakerGuard g = Check.of(6, Check.make(0, 0, 0), Check.make(7, 0, 0), Check.call(6, 1, 6), Check.giveBack(6));
        g.parameter(7, 0, 0, true, 0);
        g.parameter(7, 1, 0, true, 0);
        Check.write(g, 0, Check.giveBack(0));
        Check.write(g, 7, Check.copy(7, 1), Check.giveBack(7));
        g.start(0);
        Check.locals("at first", g, -1, -1, -1, -1, -1, -1, -1, -1);
        g.run(1);
        Check.locals("in the first maker", g, -1, -1, -1, -1, -1, -1, -1, 0);
        g.run(1);
        Check.locals("behind the first maker", g, 0, -1, -1, -1, -1, -1, -1, -1);
        g.run(2);
        Check.locals("behind the second", g, 0, -1, -1, -1, -1, -1, -1, 1);
        g.run(1);
        Check.locals("in the function", g, -1, 1, -1, -1, -1, -1, -1, -1);
        g.run(1);
        Check.locals("in the function, behind COPY", g, -1, 1, -1, -1, -1, -1, -1, 1);
        g.run(1);
        Check.locals("behind the function", g, 0, -1, -1, -1, -1, -1, 1, 1);
        g.run(1);
        for (int k = 0; k < 8; k++) {
            int number = k;
            Check.refused("local of what has ended", g, Check.NO_SUCH, x -> x.local(number));
        }
    }

    // "A field of an object: likewise; k = 4: its class."
    private static void objectsOneByOne() {
        MakerGuard g = new MakerGuard();
        for (int c = 0; c < 6; c++) {
            Check.write(g, c, Check.put(7, 7, c % 4), Check.giveBack(0));
            Check.write(g, 6, Check.make(0, 5 - c, 0));
        }
        g.start(0);
        for (int made = 0; made <= 6; made++) {
            Check.due("objects", g.state(5), made);
            for (int o = -1; o <= 6; o++) {
                int number = o;
                boolean there = o >= 0 && o < made;
                Check.due("class of " + o + " of " + made, Check.told(g, x -> x.object(number, 4)), there ? Integer.toString(5 - o) : noSuch());
                Check.due("a field of " + o + " of " + made, Check.told(g, x -> x.object(number, (5 - number) & 3)), there ? Integer.toString(o) : noSuch());
                Check.due("another field of " + o + " of " + made, Check.told(g, x -> x.object(number, (6 - number) & 3)), there ? "-1" : noSuch());
            }
            g.run(made < 6 ? 3 : 0);
        }
    }

    private static String noSuch() {
        return Check.NO_SUCH.getSimpleName();
    }

    // "3 a sixty-first object"
    private static void sixtyObjects() {
        for (int c = 0; c < 6; c++) {
            MakerGuard g = Check.of(6, Check.make(3, c, 0), Check.go(0));
            Check.write(g, c, Check.giveBack(0));
            g.start(0);
            g.run(59 * 3 - 1);
            Check.states("59 objects", g, RUNS, 176, 1, 6, 1, 59, -1);
            Check.refused("object 59", g, Check.NO_SUCH, x -> x.object(59, 0));
            Check.due("the sixtieth", g.run(4), 4);
            Check.states("60 objects", g, RUNS, 180, 1, 6, 0, 60, -1);
            Check.due("class of object 59", g.object(59, 4), c);
            Check.due("a field of object 59", g.object(59, 3), -1);
            Check.due("the sixty-first", g.run(1), 0);
            Check.states("60 objects", g, 3, 180, 1, 6, 0, 60, -1);
            Check.due("the local keeps the sixtieth", g.local(3), 59);
            Check.refused("object 60", g, Check.NO_SUCH, x -> x.object(60, 4));
        }
    }

    // "4 a twenty-first frame": function 1 calls itself once for each link of a chain
    private static void twentyFrames() {
        for (int links = 17; links <= 20; links++) {
            MakerGuard g = new MakerGuard();
            g.parameter(0, 0, 0, true, 0);
            g.parameter(7, 0, 0, true, 0);
            Check.write(g, 0, Check.put(7, 0, 3), Check.giveBack(0));
            Check.write(g, 7, Check.ifNull(0, 3), Check.get(0, 0, 3), Check.call(1, 1, 0), Check.giveBack(1));
            for (int k = 0; k < links; k++) {
                Check.write(g, 6, Check.make(0, 0, 0));
            }
            Check.write(g, 6, Check.call(0, 1, 0), Check.giveBack(0));
            g.start(0);
            g.run(1000);
            if (links < 19) {
                Check.states("a chain of " + links, g, ENDED, links * 3 + 1 + links * 4 + 2 + 1, 0, -1, -1, links, -1);
            } else {
                Check.states("a chain of " + links, g, 4, links * 3 + 1 + 18 * 3 + 2, 20, 7, 2, links, -1);
                Check.due("the local stays", g.local(0), links == 19 ? -1 : 0);
            }
        }
    }

    // A frame that is left makes room for another: no bound but those told stops a run.
    private static void framesAreGivenBack() {
        MakerGuard g = Check.of(6, Check.call(0, 1, 0), Check.go(0));
        Check.write(g, 7, Check.call(0, 2, 0), Check.giveBack(0));
        Check.write(g, 8, Check.giveBack(0));
        g.start(0);
        for (int k = 0; k < 20; k++) {
            Check.due("run", g.run(1000), 1000);
        }
        Check.due("runs", g.state(0), RUNS);
        Check.due("frames", g.state(2), 1);
    }

    // "(... frames, places and locals stay as they are)": of troubles 2 and 5, in a frame that was called
    private static void troubleLeavesAllAsItWas() {
        stays("GET of null", 2, Check.get(0, 3, 2));
        stays("GET of null to itself", 2, Check.get(3, 3, 2));
        stays("PUT to null", 2, Check.put(3, 0, 2));
        stays("PUT of null to null", 2, Check.put(3, 4, 2));
        stays("no place", 5);
    }

    private static void stays(String what, int trouble, int[]... last) {
        MakerGuard g = Check.of(6, Check.make(2, 1, 0), Check.call(3, 1, 2), Check.giveBack(3));
        g.parameter(7, 0, 1, true, 0);
        Check.write(g, 1, Check.giveBack(0));
        Check.write(g, 7, Check.copy(7, 0), Check.put(0, 7, 0));
        Check.write(g, 7, last);
        g.start(0);
        Check.due(what + ": steps", g.run(5), 5);
        Check.states(what, g, RUNS, 5, 2, 7, 2, 1, -1);
        for (int k = 0; k < 3; k++) {
            Check.due(what + ": no step", g.run(1000), 0);
            Check.states(what, g, trouble, 5, 2, 7, 2, 1, -1);
            Check.locals(what, g, 0, -1, -1, -1, -1, -1, -1, 0);
            Check.due(what + ": field 0", g.object(0, 0), 0);
            Check.due(what + ": field 2", g.object(0, 2), -1);
        }
    }

    private static void troubleInAMaker() {
        MakerGuard g = Check.of(6, Check.make(0, 2, 0));
        Check.write(g, 2, Check.setNull(7), Check.put(7, 7, 0), Check.giveBack(0));
        g.start(0);
        Check.due("a maker that lost its SELF", g.run(1000), 2);
        Check.states("a maker that lost its SELF", g, 2, 2, 2, 2, 1, 1, -1);
        g = Check.of(6, Check.make(4, 2, 0), Check.giveBack(4));
        Check.write(g, 2, Check.make(4, 2, 0), Check.giveBack(4));
        g.start(0);
        Check.due("makers in makers", g.run(1000), 19);
        Check.states("makers in makers", g, 4, 19, 20, 2, 0, 19, -1);
        Check.locals("the uppermost maker", g, -1, -1, -1, -1, -1, -1, -1, 18);
    }

    // "5 a place that is not there": place 0 of an empty body
    private static void emptyBodies() {
        for (int body = 0; body < 12; body++) {
            boolean isMaker = body < 6;
            int caller = body == 6 ? 1 : 0;
            MakerGuard g = Check.of(6 + caller, isMaker ? Check.make(0, body, 0) : Check.call(0, body - 6, 0));
            g.start(caller);
            Check.due("into an empty body", g.run(1), 1);
            Check.states("in an empty body", g, RUNS, 1, 2, body, 0, isMaker ? 1 : 0, -1);
            Check.due("no place", g.run(1), 0);
            Check.states("in an empty body", g, 5, 1, 2, body, 0, isMaker ? 1 : 0, -1);
        }
    }

    // "A run ends to be (so with all that follows up to clear())", also if nothing is declared otherwise than before
    private static void declaringEndsTheRun() {
        Check.Call[] same = {x -> x.field(0, 0, 0, true), x -> x.parameter(0, 0, 0, true, 0), x -> x.returns(0, 0, true, 0),
            x -> x.add(11, 6, 0, 0, 0), x -> x.clear(11)};
        for (int stage = 0; stage < 3; stage++) {
            for (int k = 0; k < same.length; k++) {
                MakerGuard g = nullsAndReturn(2);
                g.parameter(0, 0, 0, true, 0);
                g.start(0);
                g.run(stage);
                same[k].on(g);
                Check.refused("run behind change " + k, g, Check.STATE, x -> x.run(0));
                Check.refused("state behind change " + k, g, Check.STATE, x -> x.state(0));
                Check.refused("local behind change " + k, g, Check.NO_SUCH, x -> x.local(0));
                Check.refused("object behind change " + k, g, Check.NO_SUCH, x -> x.object(0, 4));
                g.start(0);
                Check.due("a new run behind change " + k, g.run(1000), 2);
            }
        }
    }

    private static void askingLeavesTheRun() {
        MakerGuard g = nullsAndReturn(3);
        g.start(0);
        g.run(1);
        g.good(6);
        g.good(0);
        g.holds(6, 0, 0, 0);
        Check.thrown(g, x -> x.fields(0, 0));
        g.count(0);
        g.count(1);
        g.local(0);
        Check.states("asked", g, RUNS, 1, 1, 6, 1, 0, -1);
        Check.due("it goes on", g.run(1000), 2);
    }
}
