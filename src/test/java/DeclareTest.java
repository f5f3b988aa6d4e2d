/** Promises 1 to 6: a new object, field, parameter, returns, add, clear. */
public final class DeclareTest {
    public static void main(String[] args) {
        newObject();
        fieldIsDeclared();
        parameterIsDeclared();
        parameterMayBeDeclaredAnew();
        returnsIsDeclared();
        addCounts();
        addTakesWhatItsOrderDoesNotUse();
        addStopsAtForty();
        clearSetsBodyBack();
        clearLeavesTheRest();
        changesEndTheRun();
        Check.finish();
    }

    private static void newObject() {
        MakerGuard g = new MakerGuard();
        Check.due("new: count(0)", g.count(0), 0);
        Check.due("new: count(1)", g.count(1), 0);
        for (int body = 0; body < 12; body++) {
            Check.due("new: good " + body, g.good(body), false);
        }
        for (int f = 0; f < 6; f++) {
            g.start(f);
            Check.due("new: function " + f + " has no parameters and can start", g.state(3), 6 + f);
        }
        for (int f = 0; f < 6; f++) {
            Check.write(g, 6, Check.call(f, f, 0));
        }
        Check.write(g, 6, Check.giveBack(0));
        Check.due("new: calls are good", g.good(6), true);
        for (int f = 0; f < 6; f++) {
            Check.held("new: returned by " + f, g, 6, 6, f, 0, 1, 0);
        }
        newFields();
    }

    private static void newFields() {
        for (int c = 0; c < 6; c++) {
            MakerGuard g = new MakerGuard();
            Check.write(g, 6, Check.make(0, c, 0), Check.get(1, 0, 0), Check.get(2, 0, 1),
                    Check.get(3, 0, 2), Check.get(4, 0, 3), Check.giveBack(1));
            Check.write(g, c, Check.giveBack(0));
            Check.due("new: maker " + c + " needs no field", g.good(c), true);
            for (int k = 0; k < 4; k++) {
                Check.held("new: field " + k + " of class " + c, g, 6, 5, 1 + k, 0, 1, 0);
            }
        }
    }

    private static void fieldIsDeclared() {
        MakerGuard g = new MakerGuard();
        g.field(5, 3, 4, false);
        Check.write(g, 6, Check.make(0, 5, 0), Check.get(1, 0, 3), Check.get(2, 0, 2), Check.giveBack(2));
        Check.held("field 3 of class 5", g, 6, 3, 1, 4, 0, 0);
        Check.held("field 2 of class 5", g, 6, 3, 2, 0, 1, 0);
        g.field(5, 3, 1, true);
        Check.held("field 3 of class 5 anew", g, 6, 3, 1, 1, 1, 0);
        Check.write(g, 5, Check.giveBack(0));
        Check.due("all fields nullable", g.good(5), true);
        g.field(5, 0, 5, false);
        Check.due("one is not", g.good(5), false);
        g.field(4, 0, 5, false);
        g.field(5, 0, 5, true);
        Check.due("another class's does not matter", g.good(5), true);
    }

    private static void parameterIsDeclared() {
        MakerGuard g = new MakerGuard();
        Check.due("first", g.parameter(7, 0, 3, true, 2), 1);
        Check.due("second", g.parameter(7, 1, 2, false, 1), 2);
        Check.due("third", g.parameter(7, 2, 5, false, 0), 3);
        Check.write(g, 7, Check.go(0));
        Check.held("parameter 0", g, 7, 0, 0, 3, 1, 2);
        Check.held("parameter 1", g, 7, 0, 1, 2, 0, 1);
        Check.held("parameter 2", g, 7, 0, 2, 5, 0, 0);
        Check.due("local 3 holds nothing", g.holds(7, 0, 3, 0), -2);
        Check.refused("a fourth", g, Check.NO_SUCH, x -> x.parameter(7, 3, 0, true, 0));
        Check.refused("behind the next", g, Check.STATE, x -> x.parameter(8, 1, 0, true, 0));
        Check.refused("behind the next", g, Check.STATE, x -> x.parameter(0, 2, 0, true, 0));
    }

    private static void parameterMayBeDeclaredAnew() {
        MakerGuard g = new MakerGuard();
        g.parameter(0, 0, 0, true, 0);
        g.parameter(0, 1, 1, true, 0);
        Check.due("parameter 0 anew", g.parameter(0, 0, 4, false, 1), 2);
        Check.write(g, 0, Check.giveBack(0));
        Check.held("parameter 0 anew", g, 0, 0, 0, 4, 0, 1);
        Check.held("parameter 1 stays", g, 0, 0, 1, 1, 1, 0);
        Check.held("SELF", g, 0, 0, 7, 0, 0, 1);
    }

    private static void returnsIsDeclared() {
        MakerGuard g = new MakerGuard();
        g.returns(5, 3, false, 2);
        Check.write(g, 6, Check.call(2, 5, 0), Check.go(1));
        Check.held("returned", g, 6, 1, 2, 3, 0, 2);
        g.returns(5, 1, true, 1);
        Check.held("returned anew", g, 6, 1, 2, 1, 1, 1);
    }

    private static void addCounts() {
        MakerGuard g = new MakerGuard();
        for (int order = 0; order <= 8; order++) {
            Check.due("add of order " + order, g.add(3, order, 0, 0, 0), order + 1);
        }
        Check.due("add to another body", g.add(11, 8, 7, 0, 0), 1);
        Check.due("count(0)", g.count(0), 10);
    }

    private static void addTakesWhatItsOrderDoesNotUse() {
        int least = Integer.MIN_VALUE;
        int most = Integer.MAX_VALUE;
        MakerGuard g = new MakerGuard();
        Check.due("COPY: z", g.add(0, 0, 7, 7, most), 1);
        Check.due("NULL: y, z", g.add(0, 1, 7, least, most), 2);
        Check.due("NEW", g.add(0, 2, 7, 5, 7), 3);
        Check.due("GET", g.add(0, 3, 7, 7, 3), 4);
        Check.due("PUT", g.add(0, 4, 7, 7, 3), 5);
        Check.due("IF NULL: y, z", g.add(0, 5, 7, most, least), 6);
        Check.due("GO: x, y, z", g.add(0, 6, least, -1, most), 7);
        Check.due("CALL", g.add(0, 7, 7, 5, 7), 8);
        Check.due("RETURN: y, z", g.add(0, 8, 7, least, least), 9);
    }

    private static void addStopsAtForty() {
        MakerGuard g = new MakerGuard();
        for (int k = 1; k <= 40; k++) {
            Check.due("add", g.add(6, 6, 0, k - 1, 0), k);
        }
        Check.refused("a forty-first", g, Check.STATE, x -> x.add(6, 6, 0, 0, 0));
        Check.due("count(0)", g.count(0), 40);
        Check.due("place 39 is there", g.holds(6, 39, 0, 0), -3);
        Check.due("another body goes on", g.add(7, 6, 0, 0, 0), 1);
    }

    private static void clearSetsBodyBack() {
        MakerGuard g = new MakerGuard();
        g.returns(0, 4, false, 1);
        g.parameter(6, 0, 1, false, 2);
        Check.write(g, 6, Check.go(0), Check.go(0), Check.go(0));
        Check.due("clear", g.clear(6), 3);
        Check.due("clear again", g.clear(6), 0);
        Check.due("count(0)", g.count(0), 0);
        g.start(0);
        Check.due("it has no parameters", g.state(3), 6);
        Check.refused("nor parameter 1", g, Check.STATE, x -> x.parameter(6, 1, 0, true, 0));
        Check.due("good", g.good(6), false);
        Check.write(g, 7, Check.call(0, 0, 0), Check.go(1));
        Check.held("it returns what it did at first", g, 7, 1, 0, 0, 1, 0);
        Check.due("add", g.add(6, 8, 0, 0, 0), 1);
    }

    private static void clearLeavesTheRest() {
        MakerGuard g = new MakerGuard();
        g.field(0, 1, 2, false);
        g.parameter(1, 0, 1, false, 0);
        Check.write(g, 0, Check.giveBack(0));
        Check.write(g, 1, Check.giveBack(0));
        Check.due("clear of a maker", g.clear(0), 1);
        Check.write(g, 0, Check.giveBack(0));
        Check.due("its class keeps its fields", g.good(0), false);
        Check.held("another body keeps its parameters", g, 1, 0, 0, 1, 0, 0);
    }

    private static void changesEndTheRun() {
        Check.Call[] changes = {
            x -> x.field(5, 3, 5, true), x -> x.parameter(5, 0, 0, true, 0), x -> x.returns(5, 0, true, 0),
            x -> x.add(5, 8, 0, 0, 0), x -> x.clear(5)};
        for (int k = 0; k < changes.length; k++) {
            MakerGuard g = new MakerGuard();
            Check.write(g, 6, Check.make(0, 0, 0), Check.giveBack(0));
            Check.write(g, 0, Check.giveBack(0));
            g.start(0);
            g.run(1);
            changes[k].on(g);
            Check.refused("run behind change " + k, g, Check.STATE, x -> x.run(1));
            Check.refused("state behind change " + k, g, Check.STATE, x -> x.state(0));
            Check.refused("local behind change " + k, g, Check.NO_SUCH, x -> x.local(0));
            Check.refused("object behind change " + k, g, Check.NO_SUCH, x -> x.object(0, 0));
        }
    }
}
