/** Promise 8: written. */
public final class Promise8WrittenTest {
    private static final String[] VALUES = {
        "n", "f", "t", "0", "-999999", "''", "'a b'", "[]", "{}", "[1,{a:'x',b:[]},n]", "{b:n,a:{z:-1,y:'{}'}}", "[[[[f]]]]",
    };

    public static void main(String[] args) {
        Checks checks = new Checks("promise 8");
        for (String value : VALUES) {
            PickDesk desk = Checks.deskWith(value);
            Checks.query(desk, "@");
            checks.due("written before run", desk.written(0), (int) 'n');
            desk.run(0);
            for (int i = 0; i < value.length(); i++) {
                checks.due("written " + i + " of " + value, desk.written(i), (int) value.charAt(i));
            }
            int[] others = {-1, value.length(), value.length() + 1, Integer.MIN_VALUE, Integer.MAX_VALUE};
            for (int i : others) {
                checks.due("written " + i + " of " + value, desk.written(i), PickDesk.NONE);
            }
        }
        checkShorterNext(checks);
        checks.end();
    }

    private static void checkShorterNext(Checks checks) {
        PickDesk desk = Checks.deskWith("{a:[1,2,3],b:-7}");
        Checks.query(desk, "a");
        Checks.query(desk, "b");
        desk.run(0);
        checks.due("the longer result", Checks.written(desk), "[1,2,3]");
        desk.run(1);
        checks.due("the shorter result", Checks.written(desk), "-7");
        checks.due("behind it", desk.written(2), PickDesk.NONE);
    }
}
