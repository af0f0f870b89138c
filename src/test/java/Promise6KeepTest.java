/** Promise 6: keep. */
public final class Promise6KeepTest {
    private static final Object[][] KINDS = {
        // a document, and its kind
        {"n", 0}, {"f", 1}, {"t", 2}, {"0", 3}, {"-3", 3}, {"''", 4}, {"'a'", 4}, {"[]", 5}, {"[1,[2]]", 5}, {"{}", 6},
        {"{a:{b:1}}", 6},
    };

    public static void main(String[] args) {
        Checks checks = new Checks("promise 6");
        checkKinds(checks);
        checkChain(checks);
        checkNull(checks);
        checkWithoutLimits(checks);
        checkStays(checks);
        checkOthersStay(checks);
        checks.end();
    }

    private static void checkKinds(Checks checks) {
        checks.of("answers its kind");
        for (Object[] row : KINDS) {
            PickDesk desk = Checks.deskWith((String) row[0]);
            Checks.query(desk, "@");
            desk.run(0);
            Checks.load(desk, row[0].equals("[]") ? "{}" : "[]");
            checks.due("keep " + row[0], desk.keep(), row[1]);
            checks.due("kind of the document", desk.about(2), row[1]);
        }
    }

    private static void checkChain(Checks checks) {
        checks.of("The result becomes the document");
        PickDesk desk = Checks.deskWith("{a:[{b:3},{b:1},{b:2}],c:5}");
        Checks.query(desk, "a");
        Checks.query(desk, "[*].b");
        Checks.query(desk, "sort()");
        String[] want = {"[{b:3},{b:1},{b:2}]", "[3,1,2]", "[1,2,3]"};
        int[] values = {7, 4, 4};
        for (int q = 0; q < 3; q++) {
            desk.run(q);
            checks.due("the document before keep", desk.about(3), q == 0 ? 9 : values[q - 1]);
            checks.due("keep after query " + q, desk.keep(), 5);
            checks.due("values of the document", desk.about(3), values[q]);
            checks.due("result", Checks.written(desk), want[q]);
        }
        desk.run(0);
        checks.due("a key of a list", Checks.written(desk), "n");
        checks.due("the document without keep", desk.about(3), 4);
    }

    private static void checkNull(Checks checks) {
        checks.of("The result becomes the document, when it is NULL");
        PickDesk unused = Checks.deskWith("[1,2]");
        checks.due("keep before any run", unused.keep(), 0);
        checks.due("kind of the document", unused.about(2), 0);
        checks.due("values of the document", unused.about(3), 1);
        PickDesk desk = Checks.deskWith("['a']");
        Checks.query(desk, "sum()");
        Checks.query(desk, "type()");
        checks.due("a failure", desk.run(0), 2);
        checks.due("keep after a failure", desk.keep(), 0);
        checks.due("values of NULL", desk.about(3), 1);
        checks.due("a failure of NULL", desk.run(0), 1);
        checks.due("the type of NULL", Checks.answer(desk, 1), "'none'");
        checks.due("keep the type", desk.keep(), 4);
    }

    private static void checkWithoutLimits(Checks checks) {
        checks.of("without the limits of texts");
        checkSum(checks, "[" + "999999,".repeat(21) + "999999]", "21999978");
        checkSum(checks, "[" + "-999999,".repeat(18) + "-999999]", "-18999981");
        checkSum(checks, "[999999,1]", "1000000");
    }

    private static void checkSum(Checks checks, String document, String sum) {
        PickDesk desk = Checks.deskWith(document);
        Checks.query(desk, "sum()");
        Checks.query(desk, "@");
        checks.due("the sum", Checks.answer(desk, 0), sum);
        checks.due("keep a number of more than six digits", desk.keep(), 3);
        checks.due("kind of the document", desk.about(2), 3);
        checks.due("sum of a number", desk.run(0), 1);
        checks.due("the document", Checks.answer(desk, 1), sum);
        checks.due("the number itself", desk.result(1), Integer.parseInt(sum));
    }

    private static void checkStays(Checks checks) {
        checks.of("it stays the result, too");
        for (Object[] row : KINDS) {
            PickDesk desk = Checks.deskWith((String) row[0]);
            Checks.query(desk, "@");
            desk.run(0);
            desk.keep();
            checks.due("the result after keep", Checks.written(desk), row[0]);
            checks.due("the result's kind after keep", desk.result(0), row[1]);
            checks.due("keep again", desk.keep(), row[1]);
            Checks.load(desk, "[n,n]");
            checks.due("the result after another load", Checks.written(desk), row[0]);
            checks.due("keep behind another load", desk.keep(), row[1]);
        }
    }

    private static void checkOthersStay(Checks checks) {
        checks.of("keep, and what it leaves alone");
        PickDesk desk = Checks.deskWith("[3,1]");
        Checks.query(desk, "@");
        Checks.query(desk, "sort()");
        desk.run(0);
        Checks.type(desk, "12");
        desk.keep();
        checks.due("the text stays", desk.about(0), 2);
        checks.due("the queries stay", desk.about(1), 2);
        checks.due("sorted", Checks.answer(desk, 1), "[1,3]");
        checks.due("the document that was kept", Checks.answer(desk, 0), "[3,1]");
    }
}
