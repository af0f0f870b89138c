/** Promise 6: keep. */
public final class Promise6KeepTest {
    private static final Object[][] KINDS = {
        // a document, and its kind
        {"n", 0}, {"f", 1}, {"t", 2}, {"-3", 3}, {"'a'", 4}, {"[1,[2]]", 5}, {"{a:{b:1}}", 6},
    };

    public static void main(String[] args) {
        Checks checks = new Checks("promise 6");
        for (Object[] row : KINDS) {
            PickDesk desk = Checks.deskWith((String) row[0]);
            Checks.query(desk, "@");
            desk.run(0);
            checks.due("keep " + row[0], desk.keep(), row[1]);
            checks.due("kind of the document", desk.about(2), row[1]);
            checks.due("the result stays", Checks.written(desk), row[0]);
        }
        checkChain(checks);
        checkFailure(checks);
        checks.end();
    }

    private static void checkChain(Checks checks) {
        PickDesk desk = Checks.deskWith("{a:[{b:3},{b:1},{b:2}],c:5}");
        Checks.query(desk, "a");
        Checks.query(desk, "[*].b");
        Checks.query(desk, "sort()");
        String[] want = {"[{b:3},{b:1},{b:2}]", "[3,1,2]", "[1,2,3]"};
        int[] values = {7, 4, 4};
        for (int q = 0; q < 3; q++) {
            desk.run(q);
            checks.due("keep after query " + q, desk.keep(), 5);
            checks.due("values of the document", desk.about(3), values[q]);
            checks.due("result", Checks.written(desk), want[q]);
        }
        desk.run(0);
        checks.due("a key of a list", Checks.written(desk), "n");
        checks.due("the document without keep", desk.about(3), 4);
        checks.due("keep NULL", desk.keep(), 0);
        checks.due("values of NULL", desk.about(3), 1);
        checks.due("queries", desk.about(1), 3);
    }

    private static void checkFailure(Checks checks) {
        PickDesk desk = Checks.deskWith("[999999,999999]");
        Checks.query(desk, "sum()");
        Checks.query(desk, "@");
        desk.run(0);
        checks.due("keep a number of seven digits", desk.keep(), 3);
        checks.due("sum of a number", desk.run(0), 1);
        checks.due("the failed result", desk.result(0), 0);
        checks.due("the document stays", desk.run(1), 0);
        checks.due("seven digits", Checks.written(desk), "1999998");
        Checks.type(desk, "12");
        desk.keep();
        checks.due("the text stays", desk.about(0), 2);
    }
}
