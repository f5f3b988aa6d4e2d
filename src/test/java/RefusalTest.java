/** Wrong inputs of all calls: which exception comes, which comes first, and that nothing changes. */
public final class RefusalTest {
    private static final int LEAST = Integer.MIN_VALUE;
    private static final int MOST = Integer.MAX_VALUE;

    public static void main(String[] args) {
        declaring();
        adding();
        asking();
        running();
        withoutRun();
        afterTheEnd();
        Check.finish();
    }

    private static void declaring() {
        for (int bad : new int[] {-1, 6, LEAST, MOST}) {
            refuse("field c " + bad, Check.NO_SUCH, x -> x.field(bad, 0, 0, true));
            refuse("field holds " + bad, Check.NO_SUCH, x -> x.field(0, 0, bad, true));
            refuse("parameter c " + bad, Check.NO_SUCH, x -> x.parameter(0, 0, bad, true, 0));
            refuse("returns function " + bad, Check.NO_SUCH, x -> x.returns(bad, 0, true, 0));
            refuse("returns c " + bad, Check.NO_SUCH, x -> x.returns(0, bad, true, 0));
            refuse("start " + bad, Check.NO_SUCH, x -> x.start(bad));
        }
        for (int bad : new int[] {-1, 4, LEAST, MOST}) {
            refuse("field k " + bad, Check.NO_SUCH, x -> x.field(0, bad, 0, true));
        }
        for (int bad : new int[] {-1, 3, LEAST, MOST}) {
            refuse("parameter k " + bad, Check.NO_SUCH, x -> x.parameter(0, bad, 0, true, 0));
            refuse("parameter state " + bad, Check.NO_SUCH, x -> x.parameter(0, 0, 0, true, bad));
            refuse("returns state " + bad, Check.NO_SUCH, x -> x.returns(0, 0, true, bad));
        }
        for (int bad : new int[] {-1, 12, LEAST, MOST}) {
            refuse("parameter body " + bad, Check.NO_SUCH, x -> x.parameter(bad, 0, 0, true, 0));
            refuse("clear " + bad, Check.NO_SUCH, x -> x.clear(bad));
            refuse("good " + bad, Check.NO_SUCH, x -> x.good(bad));
        }
        refuse("parameter behind the next one", Check.STATE, x -> x.parameter(0, 2, 0, true, 0));
        refuse("that, and no class", Check.NO_SUCH, x -> x.parameter(0, 2, 6, true, 0));
        refuse("that, and no state", Check.NO_SUCH, x -> x.parameter(0, 2, 0, true, 3));
        refuse("start of one with parameters", Check.STATE, x -> x.start(1));
    }

    private static void adding() {
        for (int bad : new int[] {-1, 12, LEAST, MOST}) {
            refuse("add body " + bad, Check.NO_SUCH, x -> x.add(bad, 8, 0, 0, 0));
            refuse("add body and order " + bad, Check.NO_SUCH, x -> x.add(bad, bad, 0, 0, 0));
            refuse("add order " + bad, Check.ARGUMENT, x -> x.add(0, bad, 0, 0, 0));
        }
        refuse("add order 9", Check.ARGUMENT, x -> x.add(0, 9, 0, 0, 0));
        refuse("add order 9 with no such local", Check.ARGUMENT, x -> x.add(0, 9, 8, 8, 8));
        for (int bad : new int[] {-1, 8, LEAST, MOST}) {
            for (int order : new int[] {0, 1, 2, 3, 4, 5, 7, 8}) {
                refuse("add x " + bad + " of order " + order, Check.NO_SUCH, x -> x.add(0, order, bad, 0, 0));
            }
            for (int order : new int[] {0, 3, 4}) {
                refuse("add y " + bad + " of order " + order, Check.NO_SUCH, x -> x.add(0, order, 0, bad, 0));
            }
            for (int order : new int[] {2, 7}) {
                refuse("add z " + bad + " of order " + order, Check.NO_SUCH, x -> x.add(0, order, 0, 0, bad));
            }
        }
        for (int bad : new int[] {-1, 6, LEAST, MOST}) {
            refuse("add class " + bad, Check.NO_SUCH, x -> x.add(0, 2, 0, bad, 0));
            refuse("add function " + bad, Check.NO_SUCH, x -> x.add(0, 7, 0, bad, 0));
        }
        for (int bad : new int[] {-1, 4, LEAST, MOST}) {
            refuse("add field of GET " + bad, Check.NO_SUCH, x -> x.add(0, 3, 0, 0, bad));
            refuse("add field of PUT " + bad, Check.NO_SUCH, x -> x.add(0, 4, 0, 0, bad));
        }
        refuse("add to a full body", Check.STATE, x -> x.add(11, 8, 0, 0, 0));
        refuse("that, and no order", Check.ARGUMENT, x -> x.add(11, -1, 0, 0, 0));
        refuse("that, and no local", Check.NO_SUCH, x -> x.add(11, 8, 8, 0, 0));
    }

    private static void asking() {
        for (int bad : new int[] {-1, 12, LEAST, MOST}) {
            refuse("holds body " + bad, Check.NO_SUCH, x -> x.holds(bad, 0, 0, 0));
            refuse("fields body " + bad, Check.NO_SUCH, x -> x.fields(bad, 0));
        }
        for (int bad : new int[] {-1, 2, 40, LEAST, MOST}) {
            refuse("holds place " + bad, Check.NO_SUCH, x -> x.holds(0, bad, 0, 0));
            refuse("fields place " + bad, Check.NO_SUCH, x -> x.fields(0, bad));
        }
        for (int bad : new int[] {-1, 8, LEAST, MOST}) {
            refuse("holds local " + bad, Check.NO_SUCH, x -> x.holds(0, 0, bad, 0));
        }
        for (int bad : new int[] {-1, 3, LEAST, MOST}) {
            refuse("holds what " + bad, Check.ARGUMENT, x -> x.holds(0, 0, 0, bad));
            refuse("holds what and local " + bad, Check.NO_SUCH, x -> x.holds(0, 0, bad == 3 ? 8 : bad, bad));
            refuse("holds what of one that is not good " + bad, Check.ARGUMENT, x -> x.holds(8, 0, 0, bad));
        }
        for (int function = 6; function < 12; function++) {
            int body = function;
            refuse("fields of function " + body, Check.NO_SUCH, x -> x.fields(body, 0));
        }
        refuse("holds of one that is not good", Check.STATE, x -> x.holds(8, 0, 0, 0));
        refuse("holds of a place that no way comes to, not good", Check.STATE, x -> x.holds(8, 1, 0, 0));
        refuse("fields of one that is not good", Check.STATE, x -> x.fields(2, 0));
        refuse("holds of an empty body", Check.NO_SUCH, x -> x.holds(3, 0, 0, 0));
        refuse("fields of an empty body", Check.NO_SUCH, x -> x.fields(3, 0));
        for (int bad : new int[] {-1, 2, LEAST, MOST}) {
            refuse("count " + bad, Check.ARGUMENT, x -> x.count(bad));
        }
    }

    private static void running() {
        for (int bad : new int[] {-1, 1001, LEAST, MOST}) {
            refuse("run " + bad, Check.ARGUMENT, x -> x.run(bad));
        }
        for (int bad : new int[] {-1, 7, LEAST, MOST}) {
            refuse("state " + bad, Check.ARGUMENT, x -> x.state(bad));
        }
        for (int bad : new int[] {-1, 8, LEAST, MOST}) {
            refuse("local " + bad, Check.NO_SUCH, x -> x.local(bad));
        }
        for (int bad : new int[] {-1, 5, LEAST, MOST}) {
            refuse("object k " + bad, Check.NO_SUCH, x -> x.object(0, bad));
        }
        for (int bad : new int[] {-1, 1, 60, LEAST, MOST}) {
            refuse("object o " + bad, Check.NO_SUCH, x -> x.object(bad, 0));
        }
    }

    private static void withoutRun() {
        MakerGuard g = new MakerGuard();
        Check.refused("run", g, Check.STATE, x -> x.run(0));
        Check.refused("run of too many", g, Check.ARGUMENT, x -> x.run(1001));
        Check.refused("run of too few", g, Check.ARGUMENT, x -> x.run(-1));
        Check.refused("state", g, Check.STATE, x -> x.state(0));
        Check.refused("state of nothing", g, Check.ARGUMENT, x -> x.state(7));
        Check.refused("local", g, Check.NO_SUCH, x -> x.local(0));
        Check.refused("object", g, Check.NO_SUCH, x -> x.object(0, 4));
    }

    private static void afterTheEnd() {
        MakerGuard g = prepared();
        g.run(1000);
        Check.due("ended", g.state(0), 1);
        Check.refused("local", g, Check.NO_SUCH, x -> x.local(0));
        Check.refused("object 1", g, Check.NO_SUCH, x -> x.object(1, 0));
        Check.due("object 0", g.object(0, 4), 0);
    }

    /** A run stands in the middle; bodies 0, 1, 6, 7 and 11 are good, 2 and 8 are not. */
    private static MakerGuard prepared() {
        MakerGuard g = new MakerGuard();
        g.field(2, 0, 1, false);
        g.parameter(7, 0, 0, true, 0);
        Check.write(g, 0, Check.copy(0, 7), Check.giveBack(0));
        Check.write(g, 1, Check.giveBack(0));
        Check.write(g, 2, Check.giveBack(0));
        Check.write(g, 6, Check.make(1, 0, 0), Check.giveBack(1));
        Check.write(g, 7, Check.giveBack(0));
        Check.write(g, 8, Check.giveBack(0), Check.giveBack(0));
        for (int k = 0; k < 40; k++) {
            g.add(11, 6, 0, 0, 0);
        }
        g.start(0);
        g.run(2);
        return g;
    }

    private static void refuse(String what, Class<?> kind, Check.Call call) {
        MakerGuard g = prepared();
        String before = seen(g);
        Check.refused(what, g, kind, call);
        Check.due(what + ": all that can be seen", seen(g), before);
    }

    private static String seen(MakerGuard g) {
        StringBuilder text = new StringBuilder();
        text.append(g.count(0)).append(' ').append(g.count(1));
        for (int body = 0; body < 12; body++) {
            text.append(g.good(body) ? " +" : " -");
        }
        for (int what = 0; what < 7; what++) {
            text.append(' ').append(g.state(what));
        }
        for (int k = 0; k < 8; k++) {
            text.append(' ').append(g.local(k)).append(' ').append(g.holds(0, 1, k, 0));
        }
        for (int k = 0; k < 5; k++) {
            text.append(' ').append(g.object(0, k));
        }
        text.append(' ').append(g.holds(7, 0, 0, 1)).append(' ').append(g.fields(1, 0));
        text.append(' ').append(Check.thrown(g, x -> x.start(1)));
        return text.toString();
    }
}
