/** Promise 7: result. */
public final class Promise7ResultTest {
    private static final Object[][] RESULTS = {
        // a value, its kind, its number or size, how long it is written, how many values it has
        {"n", 0, 0, 1, 1},
        {"f", 1, 0, 1, 1},
        {"t", 2, 0, 1, 1},
        {"0", 3, 0, 1, 1},
        {"-0", 3, 0, 1, 1},
        {"-1", 3, -1, 2, 1},
        {"-00042", 3, -42, 3, 1},
        {"999999", 3, 999999, 6, 1},
        {"-999999", 3, -999999, 7, 1},
        {"''", 4, 0, 2, 1},
        {"' '", 4, 1, 3, 1},
        {"'abcdefg'", 4, 7, 9, 1},
        {"[]", 5, 0, 2, 1},
        {"[n]", 5, 1, 3, 2},
        {"[[]]", 5, 1, 4, 2},
        {"[1,[2,3],'x']", 5, 3, 13, 6},
        {"[[[[1,2]]]]", 5, 1, 11, 6},
        {"{}", 6, 0, 2, 1},
        {"{a:n}", 6, 1, 5, 2},
        {"{a:1,bc:[n,{d:'e'}]}", 6, 2, 20, 6},
        {"{a:[1,2,3],a:07}", 6, 1, 5, 2},
        {"{a:{a:{a:{a:1,b:2}}}}", 6, 1, 21, 6},
    };

    private static final String[] ASKED = {
        "what 0: its kind",
        "1: a number itself, else how many characters, elements or keys it has (0 for others)",
        "2: how long it is written",
        "3: how many values it has",
    };

    public static void main(String[] args) {
        Checks checks = new Checks("promise 7");
        for (int what = 0; what < 4; what++) {
            checks.of(ASKED[what]);
            for (Object[] row : RESULTS) {
                checks.due("result " + what + " of " + row[0], resultOf((String) row[0]).result(what), row[what + 1]);
            }
        }
        checkOthers(checks);
        checkMinusOne(checks);
        checkLongest(checks);
        checkStaysAsItWas(checks);
        checks.end();
    }

    private static PickDesk resultOf(String document) {
        PickDesk desk = Checks.deskWith(document);
        Checks.query(desk, "@");
        desk.run(0);
        return desk;
    }

    private static void checkOthers(Checks checks) {
        checks.of("NONE for another what.");
        int[] others = {-1, 4, 5, 256, Integer.MIN_VALUE, Integer.MAX_VALUE};
        for (int what : others) {
            checks.due("result " + what + " of a new object", new PickDesk().result(what), PickDesk.NONE);
            checks.due("result " + what + " of a list", resultOf("[7,8]").result(what), PickDesk.NONE);
            checks.due("result " + what + " of a number", resultOf("7").result(what), PickDesk.NONE);
        }
    }

    private static void checkMinusOne(Checks checks) {
        checks.of("(A number may be -1.)");
        PickDesk desk = resultOf("-1");
        checks.due("the number", desk.result(1), -1);
        checks.due("its kind", desk.result(0), 3);
        checks.due("its length", desk.result(2), 2);
    }

    private static void checkLongest(Checks checks) {
        checks.of("2: how long it is written, of the longest one");
        PickDesk desk = resultOf("[" + "n,".repeat(78) + "11]");
        checks.due("length", desk.result(2), 160);
        checks.due("elements", desk.result(1), 79);
        checks.due("values", desk.result(3), 80);
    }

    private static void checkStaysAsItWas(Checks checks) {
        checks.of("About the result.");
        PickDesk desk = resultOf("{a:1,b:'xyz'}");
        Checks.query(desk, "b");
        Checks.load(desk, "[1,2,3,4]");
        int[] want = {6, 2, 13, 3};
        for (int what = 0; what < 4; what++) {
            checks.due("result " + what + " before the next run", desk.result(what), want[what]);
        }
        desk.run(1);
        int[] next = {0, 0, 1, 1};
        for (int what = 0; what < 4; what++) {
            checks.due("result " + what + " behind it", desk.result(what), next[what]);
        }
    }
}
