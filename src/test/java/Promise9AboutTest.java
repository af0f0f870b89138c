/** Promise 9: about. */
public final class Promise9AboutTest {
    public static void main(String[] args) {
        Checks checks = new Checks("promise 9");
        PickDesk desk = new PickDesk();
        int[] others = {-1, 4, 5, Integer.MIN_VALUE, Integer.MAX_VALUE};
        for (int what : others) {
            checks.due("about " + what, desk.about(what), PickDesk.NONE);
        }
        Checks.type(desk, "{a:[1,2],b:n,a:3}");
        dueAbout(checks, desk, "typed", 17, 0, 0, 1);
        desk.load();
        dueAbout(checks, desk, "loaded", 0, 0, 6, 3);
        Checks.type(desk, "a");
        dueAbout(checks, desk, "typed a query", 1, 0, 6, 3);
        desk.query();
        dueAbout(checks, desk, "read a query", 0, 1, 6, 3);
        Checks.query(desk, "a(");
        dueAbout(checks, desk, "read a wrong query", 0, 1, 6, 3);
        Checks.load(desk, "[1");
        dueAbout(checks, desk, "read a wrong value", 0, 1, 6, 3);
        desk.run(0);
        dueAbout(checks, desk, "run", 0, 1, 6, 3);
        desk.keep();
        dueAbout(checks, desk, "kept", 0, 1, 3, 1);
        String[] values = {"n", "f", "t", "1", "'a'", "[]", "{}"};
        for (int kind = 0; kind < values.length; kind++) {
            Checks.load(desk, values[kind]);
            dueAbout(checks, desk, "loaded " + values[kind], 0, 1, kind, 1);
        }
        checks.end();
    }

    private static void dueAbout(Checks checks, PickDesk desk, String when, int... want) {
        for (int what = 0; what < want.length; what++) {
            checks.due("about " + what + " when " + when, desk.about(what), want[what]);
        }
    }
}
