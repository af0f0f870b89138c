/** Promise 9: about. */
public final class Promise9AboutTest {
    public static void main(String[] args) {
        Checks checks = new Checks("promise 9");
        checkText(checks);
        checkQueries(checks);
        checkKinds(checks);
        checkValues(checks);
        checkOthers(checks);
        checkAll(checks);
        checks.end();
    }

    private static void checkText(Checks checks) {
        checks.of("what 0: how long the text is");
        PickDesk desk = new PickDesk();
        checks.due("of none", desk.about(0), 0);
        for (int n = 1; n <= 160; n++) {
            desk.letter('a');
            checks.due("of " + n, desk.about(0), n);
        }
        desk.load();
        checks.due("behind load", desk.about(0), 0);
    }

    private static void checkQueries(Checks checks) {
        checks.of("1: queries");
        PickDesk desk = new PickDesk();
        checks.due("none", desk.about(1), 0);
        for (int n = 1; n <= 12; n++) {
            Checks.query(desk, "a.");
            checks.due("with an error", desk.about(1), n - 1);
            Checks.query(desk, "a");
            checks.due("with one more", desk.about(1), n);
        }
        checks.dueThrown("a 13th query", desk::query, "IllegalStateException");
        checks.due("with one too many", desk.about(1), 12);
    }

    private static void checkKinds(Checks checks) {
        checks.of("2: the document's kind");
        PickDesk desk = new PickDesk();
        String[][] values = {{"n"}, {"f"}, {"t"}, {"0", "-1", "7"}, {"''", "'a'"}, {"[]", "[{}]"}, {"{}", "{a:[]}"}};
        for (int kind = 0; kind < values.length; kind++) {
            for (String value : values[kind]) {
                Checks.load(desk, value);
                checks.due("of " + value, desk.about(2), kind);
            }
        }
    }

    private static void checkValues(Checks checks) {
        checks.of("3: how many values it has");
        Object[][] rows = {
            {"n", 1}, {"''", 1}, {"[]", 1}, {"{}", 1}, {"[n]", 2}, {"{a:n}", 2}, {"[[]]", 2}, {"[[[[1]]]]", 5}, {"{a:[1,2],b:3}", 5},
            {"{a:[1,2],a:3}", 2}, {"[" + "n,".repeat(78) + "n]", 80},
        };
        for (Object[] row : rows) {
            checks.due("of " + row[0], Checks.deskWith((String) row[0]).about(3), row[1]);
        }
    }

    private static void checkOthers(Checks checks) {
        checks.of("NONE for another what.");
        int[] others = {-1, 4, 5, 256, Integer.MIN_VALUE, Integer.MAX_VALUE};
        for (int what : others) {
            checks.due("about " + what + " of a new object", new PickDesk().about(what), PickDesk.NONE);
            checks.due("about " + what + " of a number", Checks.deskWith("7").about(what), PickDesk.NONE);
        }
    }

    private static void checkAll(Checks checks) {
        checks.of("about, between other calls");
        PickDesk desk = new PickDesk();
        Checks.type(desk, "{a:[1,2],b:n,a:3}");
        dueAbout(checks, desk, "typed", 17, 0, 0, 1);
        desk.load();
        dueAbout(checks, desk, "loaded", 0, 0, 6, 3);
        Checks.type(desk, "a");
        dueAbout(checks, desk, "typed a query", 1, 0, 6, 3);
        desk.query();
        dueAbout(checks, desk, "read a query", 0, 1, 6, 3);
        Checks.query(desk, "a(");
        dueAbout(checks, desk, "read a wrong query", 0, 1, 6, 3);
        Checks.load(desk, "[1");
        dueAbout(checks, desk, "read a wrong value", 0, 1, 6, 3);
        desk.run(0);
        dueAbout(checks, desk, "run", 0, 1, 6, 3);
        desk.keep();
        dueAbout(checks, desk, "kept", 0, 1, 3, 1);
    }

    private static void dueAbout(Checks checks, PickDesk desk, String when, int... want) {
        for (int what = 0; what < want.length; what++) {
            checks.due("about " + what + " when " + when, desk.about(what), want[what]);
        }
    }
}
