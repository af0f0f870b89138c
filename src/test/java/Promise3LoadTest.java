/** Promise 3: load. */
public final class Promise3LoadTest {
    private static final String[][] VALUES = {
        // a text, how many values it has, and how it is written
        {"n", "1", "n"},
        {"f", "1", "f"},
        {"t", "1", "t"},
        {"0", "1", "0"},
        {"-0", "1", "0"},
        {"-000000", "1", "0"},
        {"000012", "1", "12"},
        {"-02", "1", "-2"},
        {"999999", "1", "999999"},
        {"-999999", "1", "-999999"},
        {"''", "1", "''"},
        {"' ~[]{},'", "1", "' ~[]{},'"},
        {"[]", "1", "[]"},
        {"{}", "1", "{}"},
        {"[[],{}]", "3", "[[],{}]"},
        {"[1,{a:'x',b:[]},n]", "6", "[1,{a:'x',b:[]},n]"},
        {"{abcdefg:n}", "2", "{abcdefg:n}"},
        {"{z:1,a:2,m:3}", "4", "{z:1,a:2,m:3}"},
        {"{a:1,b:2,a:3}", "3", "{a:3,b:2}"},
        {"{a:[1,2,3],b:2,a:n}", "3", "{a:n,b:2}"},
        {"{a:1,a:2,a:{a:3,a:[4]}}", "4", "{a:{a:[4]}}"},
        {"[[[[1]]]]", "5", "[[[[1]]]]"},
        {"{a:[{b:{c:1}}]}", "5", "{a:[{b:{c:1}}]}"},
        {"[[[[]]],[[{}]],[{a:[n]}]]", "11", "[[[[]]],[[{}]],[{a:[n]}]]"},
    };

    private static final Object[][] ERRORS = {
        // a text, and the place of what does not fit
        {"", 0}, {" ", 0}, {"x", 0}, {"]", 0}, {",", 0}, {"N", 0}, {"+1", 0}, {"\"a\"", 0},
        {"nn", 1}, {"true", 1}, {"1 ", 1}, {" 1", 0}, {"1.5", 1}, {"[1] ", 3}, {"{}n", 2},
        {"-", 1}, {"--1", 1}, {"-a", 1}, {"1-", 1}, {"1234567", 6}, {"-1234567", 7}, {"0000000", 6}, {"[1234567]", 7},
        {"'", 1}, {"'a", 2}, {"'1234567", 8}, {"'12345678", 8}, {"'12345678'", 8}, {"'a'b", 3}, {"'a''", 3},
        {"[", 1}, {"[1", 2}, {"[1,", 3}, {"[1,]", 3}, {"[,1]", 1}, {"[1 ,2]", 2}, {"[1, 2]", 3}, {"[1}", 2}, {"[1;2]", 2},
        {"[1,,2]", 3}, {"[x]", 1}, {"[-]", 2}, {"[12a]", 3},
        {"{", 1}, {"{a", 2}, {"{a:", 3}, {"{a:1", 4}, {"{a:1,", 5}, {"{a:1,}", 5}, {"{a}", 2}, {"{:1}", 1}, {"{1:1}", 1},
        {"{A:1}", 1}, {"{'a':1}", 1}, {"{a :1}", 2}, {"{a:1]", 4}, {"{a:}", 3}, {"{,}", 1}, {"{a::1}", 3}, {"{aB:1}", 2},
        {"{abcdefgh:1}", 8}, {"{abcdefgh", 8}, {"{abcdefg", 8}, {"{a:1,abcdefgh:1}", 12},
        {"[[[[[1]]]]]", 4}, {"[[[[[", 4}, {"[[[[{}]]]]", 4}, {"[[[{a:[]}]]]", 6}, {"{a:{a:{a:{a:{}}}}}", 12},
        {"[[[[]],[[[]]]]]", 9}, {"[[],[[[[", 7}, {"[[[[1]]]", 8},
    };

    public static void main(String[] args) {
        Checks checks = new Checks("promise 3");
        for (String[] row : VALUES) {
            PickDesk desk = new PickDesk();
            checks.due("load " + row[0], "" + Checks.load(desk, row[0]), row[1]);
            checks.due("values of " + row[0], "" + desk.about(3), row[1]);
            checks.due("text length after load", desk.about(0), 0);
            checks.due("written " + row[0], Checks.answer(row[0], "@"), row[2]);
        }
        for (Object[] row : ERRORS) {
            PickDesk desk = Checks.deskWith("[1,2]");
            checks.due("load " + row[0], Checks.load(desk, (String) row[0]), -1 - (Integer) row[1]);
            checks.due("text length after an error", desk.about(0), 0);
            checks.due("kind of the document that stays", desk.about(2), 5);
            checks.due("values of the document that stays", desk.about(3), 3);
            checks.due("what loads next", Checks.load(desk, "'a'"), 1);
        }
        checkLongTexts(checks);
        checkOthersStay(checks);
        checks.end();
    }

    private static void checkLongTexts(Checks checks) {
        String most = "[" + "n,".repeat(78) + "n]";
        checks.due("79 elements", Checks.load(new PickDesk(), most), 80);
        checks.due("160 letters without an end", Checks.load(new PickDesk(), "[" + "1,".repeat(79) + "1"), -161);
        StringBuilder keys = new StringBuilder("{");
        for (char c = 'a'; c <= 'z'; c++) {
            keys.append(c).append(":").append(c - 'a').append(c == 'z' ? "}" : ",");
        }
        checks.due("26 keys", Checks.load(new PickDesk(), keys.toString()), 27);
        checks.due("26 keys written", Checks.answer(keys.toString(), "@"), keys.toString());
    }

    private static void checkOthersStay(Checks checks) {
        PickDesk desk = Checks.deskWith("[7]");
        Checks.query(desk, "[0]");
        desk.run(0);
        Checks.load(desk, "{a:1}");
        checks.due("the result after a load", Checks.written(desk), "7");
        checks.due("the queries after a load", desk.about(1), 1);
        checks.due("the document's kind after a load", desk.about(2), 6);
    }
}
