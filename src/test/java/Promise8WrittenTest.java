/** Promise 8: written. */
public final class Promise8WrittenTest {
    private static final String[][] WRITTEN = {
        // what the document says of how values are written, and values that are written just so
        {"n, f, t", "n", "f", "t"},
        {"a number in decimals, with - if below 0", "0", "-1", "1", "10", "-999999", "999999", "100000"},
        {"a text between two '", "''", "' '", "'a b'", "'abcdefg'", "'[{n:,}]'", "'~!\"#$%&'"},
        {"a list between [ and ]", "[]", "[n]", "[[]]", "[[[[f]]]]", "[{}]"},
        {"an object between { and }", "{}", "{a:n}", "{a:{}}", "{a:{b:{c:{d:t}}}}", "{a:[]}"},
        {"values with , between them", "[1,2]", "[1,[2,3],4]", "[[],[]]", "{a:1,b:2}", "[{a:1,b:2},{a:1,b:2}]", "[n,n,n]"},
        {"a key with : ahead of its value", "{abcdefg:1}", "{b:n,a:{z:-1,y:'{}'}}", "{z:1,y:2,x:3}"},
        {"[1,{a:'x',b:[]},n]", "[1,{a:'x',b:[]},n]"},
    };

    public static void main(String[] args) {
        Checks checks = new Checks("promise 8");
        for (String[] row : WRITTEN) {
            checks.of(row[0]);
            for (int i = 1; i < row.length; i++) {
                checkValue(checks, row[i]);
            }
        }
        checkPlain(checks);
        checkNone(checks);
        checkNewObject(checks);
        checkNext(checks);
        checks.end();
    }

    private static PickDesk resultOf(String document) {
        PickDesk desk = Checks.deskWith(document);
        Checks.query(desk, "@");
        desk.run(0);
        return desk;
    }

    private static void checkValue(Checks checks, String value) {
        PickDesk desk = resultOf(value);
        for (int i = 0; i < value.length(); i++) {
            checks.due("written " + i + " of " + value, desk.written(i), (int) value.charAt(i));
        }
        checks.due("written behind " + value, desk.written(value.length()), PickDesk.NONE);
    }

    private static void checkPlain(Checks checks) {
        checks.of("a number in decimals: without the 0 that led it, and -0 is 0");
        String[][] rows = {{"000007", "7"}, {"-000007", "-7"}, {"-0", "0"}, {"000000", "0"}, {"[-00,01]", "[0,1]"}};
        for (String[] row : rows) {
            checks.due("written " + row[0], Checks.written(resultOf(row[0])), row[1]);
        }
    }

    private static void checkNone(Checks checks) {
        checks.of("NONE when there is none.");
        String longest = "[" + "n,".repeat(78) + "11]";
        String[] values = {"n", "0", "''", "[]", "{}", "[1,2]", longest};
        for (String value : values) {
            PickDesk desk = resultOf(value);
            checks.due("the first of " + value, desk.written(0), (int) value.charAt(0));
            checks.due("the last of " + value, desk.written(value.length() - 1), (int) value.charAt(value.length() - 1));
            int[] others = {-1, -2, value.length(), value.length() + 1, Integer.MIN_VALUE, Integer.MAX_VALUE};
            for (int i : others) {
                checks.due("written " + i + " of " + value, desk.written(i), PickDesk.NONE);
            }
        }
    }

    private static void checkNewObject(Checks checks) {
        checks.of("Character i of the result, of a new object and before a run");
        checks.due("written 0", new PickDesk().written(0), (int) 'n');
        checks.due("written 1", new PickDesk().written(1), PickDesk.NONE);
        PickDesk desk = Checks.deskWith("[1,2]");
        Checks.query(desk, "@");
        checks.due("written of what has not been run", Checks.written(desk), "n");
    }

    private static void checkNext(Checks checks) {
        checks.of("Character i of the result, when a shorter one, a NULL or a longer one comes next");
        PickDesk desk = Checks.deskWith("{a:[1,2,3],b:-7}");
        String[] queries = {"a", "b", "c", "a|sum()|length()", "@"};
        String[] want = {"[1,2,3]", "-7", "n", "n", "{a:[1,2,3],b:-7}"};
        for (int q = 0; q < queries.length; q++) {
            Checks.query(desk, queries[q]);
            desk.run(q);
            checks.due("written of " + queries[q], Checks.written(desk), want[q]);
            checks.due("behind it", desk.written(want[q].length()), PickDesk.NONE);
        }
    }
}
