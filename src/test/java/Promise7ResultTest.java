/** Promise 7: result. */
public final class Promise7ResultTest {
    private static final Object[][] RESULTS = {
        // a value, its kind, its number or size, how long it is written, how many values it has
        {"n", 0, 0, 1, 1},
        {"f", 1, 0, 1, 1},
        {"t", 2, 0, 1, 1},
        {"0", 3, 0, 1, 1},
        {"-1", 3, -1, 2, 1},
        {"-00042", 3, -42, 3, 1},
        {"999999", 3, 999999, 6, 1},
        {"''", 4, 0, 2, 1},
        {"'abcdefg'", 4, 7, 9, 1},
        {"[]", 5, 0, 2, 1},
        {"[n]", 5, 1, 3, 2},
        {"[1,[2,3],'x']", 5, 3, 13, 6},
        {"{}", 6, 0, 2, 1},
        {"{a:1,bc:[n,{d:'e'}]}", 6, 2, 20, 6},
        {"{a:[1,2,3],a:07}", 6, 1, 5, 2},
    };

    public static void main(String[] args) {
        Checks checks = new Checks("promise 7");
        for (Object[] row : RESULTS) {
            PickDesk desk = Checks.deskWith((String) row[0]);
            Checks.query(desk, "@");
            desk.run(0);
            for (int what = 0; what < 4; what++) {
                checks.due("result " + what + " of " + row[0], desk.result(what), row[what + 1]);
            }
            int[] others = {-1, 4, 5, Integer.MIN_VALUE, Integer.MAX_VALUE};
            for (int what : others) {
                checks.due("result " + what, desk.result(what), PickDesk.NONE);
            }
        }
        checks.end();
    }
}
