/**
 * The bounds that the document names, from inside: the least and the largest number that is taken, what
 * is empty and what is full. From outside they are looked at by RefusalTest and OrderTest.
 */
public final class BoundsTest {
    public static void main(String[] args) {
        newObject();
        classesAndFields();
        makersAndFunctions();
        parametersAreThreeAtMost();
        nextParameterOnly();
        declaredStates();
        edgesOfEachOrder();
        fortyPlaces();
        lastPlaceOfEachOrder();
        placesOfGo();
        placesOfIfNull();
        parametersUpToTheLastLocal();
        selfIsGiven();
        placeZero();
        clearOfEmptyAndFull();
        holdsAtTheEdges();
        fieldsAsBits();
        counts();
        fiveHundredAndTwelveCalls();
        Check.finish();
    }

    // "Bodies without instructions and parameters": what the very first call of an object answers
    private static void newObject() {
        for (int k = 0; k < 12; k++) {
            int body = k;
            Check.due("clear", new MakerGuard().clear(body), 0);
            Check.due("good", new MakerGuard().good(body), false);
            Check.refused("holds", new MakerGuard(), Check.NO_SUCH, x -> x.holds(body, 0, 0, 0));
            Check.refused("fields", new MakerGuard(), Check.NO_SUCH, x -> x.fields(body, 0));
            Check.refused("parameter 1", new MakerGuard(), Check.STATE, x -> x.parameter(body, 1, 0, true, 0));
            Check.due("parameter 0", new MakerGuard().parameter(body, 0, 0, true, 0), 1);
            Check.due("add", new MakerGuard().add(body, 6, 0, 0, 0), 1);
        }
        for (int n : new int[] {0, 1, 1000}) {
            Check.refused("run", new MakerGuard(), Check.STATE, x -> x.run(n));
        }
        for (int k = 0; k < 7; k++) {
            int number = k;
            Check.refused("state", new MakerGuard(), Check.STATE, x -> x.state(number));
            Check.refused("local", new MakerGuard(), Check.NO_SUCH, x -> x.local(number));
            Check.refused("object", new MakerGuard(), Check.NO_SUCH, x -> x.object(0, number));
        }
        Check.due("count(0)", new MakerGuard().count(0), 0);
        Check.due("count(1)", new MakerGuard().count(1), 0);
    }

    // "CLASSES are 0 .. 5, each with FIELDS 0 .. 3; a field has a class, and is NULLABLE or not"
    private static void classesAndFields() {
        for (int c = 0; c < 6; c++) {
            for (int k = 0; k < 4; k++) {
                MakerGuard g = Check.of(6, Check.make(0, c, 0), Check.get(1, 0, k), Check.get(2, 0, 3 - k), Check.go(3));
                for (int held = 0; held < 6; held++) {
                    String what = "field " + k + " of class " + c + " holds " + held;
                    g.field(c, k, held, false);
                    Check.held(what, g, 6, 3, 1, held, 0, 0);
                    g.field(c, k, held, true);
                    Check.held(what + ", nullable", g, 6, 3, 1, held, 1, 0);
                    Check.held(what + ": another one", g, 6, 3, 2, 0, 1, 0);
                }
            }
        }
    }

    // "BODIES are 0 .. 11: 0 .. 5 the MAKERS of the classes, 6 .. 11 the FUNCTIONS 0 .. 5."
    private static void makersAndFunctions() {
        for (int body = 0; body < 12; body++) {
            boolean isMaker = body < 6;
            MakerGuard g = Check.of(body, Check.go(0));
            Check.due("local 7 of body " + body, g.holds(body, 0, 7, 0), isMaker ? body : -2);
            for (int k = 0; k < 7; k++) {
                Check.due("local " + k + " of body " + body, g.holds(body, 0, k, 0), -2);
            }
            int number = body;
            Check.due("fields of body " + body, Check.told(g, x -> x.fields(number, 0)), isMaker ? "0" : "NoSuchElementException");
            int function = isMaker ? 0 : body - 6;
            int other = isMaker ? 6 : body;
            g.clear(other);
            Check.write(g, other, Check.make(0, body % 6, 0));
            g.start(function);
            Check.due("body of function " + function, g.state(3), 6 + function);
            g.run(1);
            Check.due("body of the maker of " + body % 6, g.state(3), body % 6);
            Check.due("class of what it makes", g.object(0, 4), body % 6);
        }
    }

    // "its PARAMETERS are the first ones (3 at most)"
    private static void parametersAreThreeAtMost() {
        for (int body = 0; body < 12; body++) {
            MakerGuard g = Check.of(body, Check.go(0));
            int number = body;
            for (int k = 0; k < 3; k++) {
                Check.due("parameter " + k + " of " + body, g.parameter(body, k, 5 - k, k == 1, k), k + 1);
                Check.held("parameter " + k + " of " + body, g, body, 0, k, 5 - k, k == 1 ? 1 : 0, k);
                Check.due("local " + (k + 1) + " is none", g.holds(body, 0, k + 1, 0), -2);
            }
            Check.refused("a fourth of " + body, g, Check.NO_SUCH, x -> x.parameter(number, 3, 0, true, 0));
            Check.due("local 7 is as before", g.holds(body, 0, 7, 0), body < 6 ? body : -2);
        }
    }

    // "k is one that it has, or the next one: how many it has. ... IllegalStateException: k is behind the next one."
    private static void nextParameterOnly() {
        for (int has = 0; has <= 3; has++) {
            for (int k = 0; k < 3; k++) {
                MakerGuard g = new MakerGuard();
                for (int next = 0; next < has; next++) {
                    g.parameter(9, next, 0, true, 0);
                }
                int number = k;
                String due = k > has ? "IllegalStateException" : Integer.toString(Math.max(has, k + 1));
                Check.due("parameter " + k + " of " + has, Check.told(g, x -> x.parameter(9, number, 5, false, 2)), due);
            }
        }
    }

    // "Each parameter, and what a function returns, is DECLARED: a class, nullable or not, and a STATE: 0 .. 2"
    private static void declaredStates() {
        for (int c = 0; c < 6; c++) {
            for (int k = 0; k < 6; k++) {
                MakerGuard g = new MakerGuard();
                g.parameter(0, 0, c, k > 2, k % 3);
                g.returns(5, c, k > 2, k % 3);
                g.returns(0, 5 - c, true, 0);
                Check.write(g, 0, Check.call(1, 5, 0), Check.go(1));
                Check.held("parameter", g, 0, 1, 0, c, k > 2 ? 1 : 0, k % 3);
                Check.held("returned", g, 0, 1, 1, c, k > 2 ? 1 : 0, k % 3);
            }
        }
    }

    // "NoSuchElementException: body, or of the order: local x (all but 6), ...": the edges that are taken
    private static void edgesOfEachOrder() {
        int[][] taken = {
            {0, 0, 0, 0}, {0, 7, 7, 0}, {1, 0, 0, 0}, {1, 7, 0, 0}, {2, 0, 0, 0}, {2, 7, 5, 7}, {3, 0, 0, 0}, {3, 7, 7, 3},
            {4, 0, 0, 0}, {4, 7, 7, 3}, {5, 0, 0, 0}, {5, 7, 0, 0}, {6, 0, 0, 0}, {7, 0, 0, 0}, {7, 7, 5, 7}, {8, 0, 0, 0}, {8, 7, 0, 0},
            // What the order does not name may be anything.
            {0, 0, 0, -1}, {0, 0, 0, 99}, {1, 0, -1, -1}, {1, 0, 99, 99}, {5, 0, -1, -1}, {5, 0, 99, 99}, {6, -1, -1, -1},
            {6, 99, 99, 99}, {8, 0, -1, -1}, {8, 0, 99, 99}};
        for (int body : new int[] {0, 5, 6, 11}) {
            MakerGuard g = new MakerGuard();
            for (int k = 0; k < taken.length; k++) {
                int[] i = taken[k];
                Check.due("add of order " + i[0] + " to " + body, g.add(body, i[0], i[1], i[2], i[3]), k + 1);
            }
        }
    }

    // "INSTRUCTIONS are at places 0, 1, .. , at most 40"; "IllegalStateException: there are 40."
    private static void fortyPlaces() {
        for (int body = 0; body < 12; body++) {
            MakerGuard g = new MakerGuard();
            int number = body;
            for (int place = 0; place < 39; place++) {
                Check.due("add to " + body, g.add(body, 1, place % 7, 0, 0), place + 1);
            }
            Check.due("39 are not good", g.good(body), false);
            Check.due("the fortieth", g.add(body, 8, 0, 0, 0), 40);
            Check.due("40 are good", g.good(body), true);
            Check.refused("a forty-first", g, Check.STATE, x -> x.add(number, 8, 0, 0, 0));
            Check.due("place 39", g.holds(body, 39, 0, 1), 2);
            Check.refused("place 40", g, Check.NO_SUCH, x -> x.holds(number, 40, 0, 1));
            int caller = (body + 1) % 6;
            Check.write(g, 6 + caller, body < 6 ? Check.make(0, body, 0) : Check.call(0, body - 6, 0), Check.giveBack(0));
            g.start(caller);
            Check.due("forty steps and those of the caller", g.run(1000), 42);
            Check.due("ended", g.state(0), 1);
            Check.due("another body has two", g.clear(6 + caller), 2);
        }
    }

    // "there is one behind each instruction but 6 and 8": at the end of a short body and of a full one
    private static void lastPlaceOfEachOrder() {
        for (int ahead : new int[] {2, 39}) {
            for (int order = 0; order <= 8; order++) {
                MakerGuard g = new MakerGuard();
                for (int place = 0; place < ahead; place++) {
                    Check.write(g, 6, place % 2 == 0 ? Check.make(0, 0, 0) : Check.setNull(1));
                }
                g.add(6, order, 0, 0, 0);
                Check.due("order " + order + " at place " + ahead, g.good(6), order == 6 || order == 8);
                if (ahead < 39) {
                    Check.write(g, 6, Check.giveBack(0));
                    Check.due("order " + order + " at place " + ahead + " and one behind", g.good(6), true);
                }
            }
        }
    }

    // "places are there": of GO just below, at and just above the places of a body
    private static void placesOfGo() {
        for (int size : new int[] {1, 2, 40}) {
            for (int to : new int[] {-1, 0, size - 1, size, size + 1, Integer.MIN_VALUE, Integer.MAX_VALUE}) {
                MakerGuard g = new MakerGuard();
                g.add(6, 6, 0, to, 0);
                fillUp(g, size);
                boolean there = to >= 0 && to < size;
                Check.due("GO to " + to + " of " + size, g.good(6), there);
                g.start(0);
                Check.due("steps of GO to " + to + " of " + size, g.run(2), there ? 2 : 1);
                Check.due("GO to " + to + " of " + size, g.state(0), there ? 0 : 5);
                Check.due("place behind GO to " + to, g.state(4), to);
            }
        }
    }

    private static void placesOfIfNull() {
        for (int size : new int[] {3, 40}) {
            for (int to : new int[] {-1, 0, 2, size - 1, size, Integer.MIN_VALUE, Integer.MAX_VALUE}) {
                for (int[] first : new int[][] {Check.setNull(0), Check.make(0, 0, 0), Check.call(0, 5, 0)}) {
                    MakerGuard g = new MakerGuard();
                    Check.write(g, 6, first, Check.ifNull(0, to));
                    fillUp(g, size);
                    Check.due("IF NULL to " + to + " of " + size, g.good(6), to >= 0 && to < size);
                }
            }
        }
    }

    /** The rest of body 6: each place goes to itself. */
    private static void fillUp(MakerGuard g, int size) {
        for (int place = g.count(0); place < size; place++) {
            g.add(6, 6, 0, place, 0);
        }
    }

    // "with parameters of locals z, z + 1, .."; "parameters behind local 7 are null"
    private static void parametersUpToTheLastLocal() {
        for (int order : new int[] {2, 7}) {
            for (int has = 0; has <= 3; has++) {
                for (int z = 0; z < 8; z++) {
                    parametersFrom(order, has, z);
                }
            }
        }
    }

    private static void parametersFrom(int order, int has, int z) {
        MakerGuard g = new MakerGuard();
        String what = "order " + order + " with " + has + " parameters from local " + z;
        int called = order == 2 ? 1 : 7;
        for (int k = 0; k < has; k++) {
            g.parameter(called, k, 0, true, 0);
        }
        Check.write(g, 0, Check.giveBack(0));
        for (int k = 0; k < 8; k++) {
            Check.write(g, 6, Check.make(k, 0, 0));
        }
        g.add(6, order, 0, 1, z);
        Check.write(g, 6, Check.go(9));
        Check.due(what + ": good", g.good(6), z + has <= 8);
        g.start(0);
        Check.due(what + ": steps", g.run(17), 17);
        for (int k = 0; k < 7; k++) {
            int due = k < has && z + k < 8 ? z + k : -1;
            Check.due(what + ": local " + k, g.local(k), due);
        }
        Check.due(what + ": local 7", g.local(7), order == 2 ? 8 : -1);
    }

    // "of a maker local 7 is the object that is made, its SELF": it may be given on, but not be written
    private static void selfIsGiven() {
        for (int z = 5; z < 8; z++) {
            MakerGuard g = new MakerGuard();
            for (int k = z; k < 8; k++) {
                g.parameter(1, k - z, 0, k < 7, k < 7 ? 0 : 1);
            }
            Check.write(g, 0, Check.setNull(5), Check.setNull(6), Check.make(0, 1, z), Check.put(7, 7, 0), Check.giveBack(0));
            Check.due("SELF is given from local " + z, g.good(0), true);
            Check.held("what is made with SELF is free", g, 0, 3, 0, 1, 0, 1);
        }
        for (int order : new int[] {0, 1, 2, 3, 7}) {
            for (int x = 6; x < 8; x++) {
                MakerGuard g = new MakerGuard();
                g.add(0, order, x, order == 0 || order == 3 ? 7 : 0, 0);
                Check.write(g, 0, Check.giveBack(0));
                Check.due("order " + order + " to local " + x + " of a maker", g.good(0), x < 7);
                g.clear(0);
                g.add(6, 1, 7, 0, 0);
                g.add(6, 2, 7, 0, 0);
                g.add(6, order, x, order == 0 || order == 3 ? 7 : 0, 0);
                Check.write(g, 6, Check.giveBack(x));
                Check.due("order " + order + " to local " + x + " of a function", g.good(6), true);
            }
        }
    }

    // "A body is GOOD if place 0 is there, and each instruction that ways come to can be done."
    private static void placeZero() {
        MakerGuard g = new MakerGuard();
        for (int body = 0; body < 12; body++) {
            Check.due("an empty body", g.good(body), false);
            Check.write(g, body, Check.go(0));
            Check.due("place 0 alone", g.good(body), true);
            Check.write(g, body, Check.get(0, 1, 2));
            Check.due("and a place that no way comes to", g.good(body), true);
            Check.due("no way comes there", g.holds(body, 1, 0, 0), -3);
            g.clear(body);
            Check.due("empty again", g.good(body), false);
        }
    }

    // "A body is as at first: how many instructions it had."
    private static void clearOfEmptyAndFull() {
        for (int body = 0; body < 12; body++) {
            MakerGuard g = new MakerGuard();
            int number = body;
            Check.due("clear of an empty body", g.clear(body), 0);
            Check.write(g, body, Check.go(0));
            Check.due("clear of one", g.clear(body), 1);
            for (int k = 0; k < 40; k++) {
                g.add(body, 6, 0, 0, 0);
            }
            g.parameter(body, 0, 1, true, 1);
            Check.due("clear of a full body", g.clear(body), 40);
            Check.due("count(0)", g.count(0), 0);
            Check.refused("no place is left", g, Check.NO_SUCH, x -> x.holds(number, 0, 0, 0));
            Check.refused("no parameter is left", g, Check.STATE, x -> x.parameter(number, 1, 0, true, 0));
            Check.due("it can be filled again", g.add(body, 6, 0, 0, 0), 1);
            Check.due("local 0 holds nothing", g.holds(body, 0, 0, 0), -2);
        }
    }

    // "-2 for each, if it holds nothing, -3 if no way comes there"; "NONE: it has none"
    private static void holdsAtTheEdges() {
        MakerGuard g = new MakerGuard();
        g.parameter(11, 0, 5, true, 2);
        Check.write(g, 11, Check.setNull(7), Check.giveBack(7), Check.go(2));
        g.returns(5, 5, true, 2);
        Check.held("the first local at the first place", g, 11, 0, 0, 5, 1, 2);
        Check.held("the last local at the first place", g, 11, 0, 7, -2, -2, -2);
        Check.held("the last local behind NULL", g, 11, 1, 7, MakerGuard.NONE, 2, 0);
        Check.held("the first local where no way comes", g, 11, 2, 0, -3, -3, -3);
        Check.held("the last local where no way comes", g, 11, 2, 7, -3, -3, -3);
    }

    // "The fields that were PUT to SELF ahead of an instruction of a maker, as bits; NONE if no way comes there."
    private static void fieldsAsBits() {
        for (int body = 0; body < 6; body++) {
            MakerGuard g = new MakerGuard();
            g.field(body, 0, body, true);
            Check.write(g, body, Check.setNull(0), Check.put(7, 0, 0), Check.put(7, 0, 3), Check.put(7, 0, 3), Check.put(7, 0, 1),
                    Check.put(7, 0, 2), Check.giveBack(0), Check.giveBack(0));
            int[] due = {0, 0, 1, 9, 9, 11, 15, MakerGuard.NONE};
            for (int place = 0; place < due.length; place++) {
                Check.due("fields of " + body + " at " + place, g.fields(body, place), due[place]);
            }
        }
    }

    // "0 instructions of all bodies, 1 good bodies": from none to all
    private static void counts() {
        MakerGuard g = new MakerGuard();
        Check.due("no instruction", g.count(0), 0);
        Check.due("no good body", g.count(1), 0);
        for (int body = 0; body < 12; body++) {
            for (int k = 0; k < 40; k++) {
                g.add(body, 6, 0, k, 0);
            }
        }
        Check.due("all instructions", g.count(0), 480);
        Check.due("all bodies are good", g.count(1), 12);
    }

    // "An object is used for at most 512 calls": the last of them is answered like the first.
    private static void fiveHundredAndTwelveCalls() {
        MakerGuard g = Check.of(6, Check.go(0));
        g.start(0);
        for (int call = 3; call < 512; call++) {
            Check.due("call " + call, g.run(1000), 1000);
        }
        Check.due("call 512", g.state(1), 509_000);
    }
}
