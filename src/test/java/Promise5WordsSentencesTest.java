/** Promise 5, run, with words: a check of each sentence that names a boundary, in the document's order. */
public final class Promise5WordsSentencesTest {
    private static final String[] KINDS = {"n", "f", "t", "3", "'ab'", "[2,1]", "{k:1}"};
    private static final String[] EMPTY = {"''", "[]", "{}"};

    // What each word gives of the values above, one by one: "!1n" is failure 1.
    private static final String[][] GIVEN = {
        {"length()", "!1n", "!1n", "!1n", "!1n", "2", "2", "1"},
        {"keys()", "!1n", "!1n", "!1n", "!1n", "!1n", "!1n", "['k']"},
        {"values()", "!1n", "!1n", "!1n", "!1n", "!1n", "!1n", "[1]"},
        {"sort()", "!1n", "!1n", "!1n", "!1n", "!1n", "[1,2]", "!1n"},
        {"sort(k)", "!1n", "!1n", "!1n", "!1n", "!1n", "!2n", "!1n"},
        {"reverse()", "!1n", "!1n", "!1n", "!1n", "'ba'", "[1,2]", "!1n"},
        {"sum()", "!1n", "!1n", "!1n", "!1n", "!1n", "3", "!1n"},
        {"max()", "!1n", "!1n", "!1n", "!1n", "!1n", "2", "!1n"},
        {"min()", "!1n", "!1n", "!1n", "!1n", "!1n", "1", "!1n"},
        {"type()", "'none'", "'truth'", "'truth'", "'number'", "'text'", "'list'", "'object'"},
    };
    private static final String[][] GIVEN_OF_EMPTY = {
        {"length()", "0", "0", "0"},
        {"keys()", "!1n", "!1n", "[]"},
        {"values()", "!1n", "!1n", "[]"},
        {"sort()", "!1n", "[]", "!1n"},
        {"sort(k)", "!1n", "[]", "!1n"},
        {"reverse()", "''", "[]", "!1n"},
        {"sum()", "!1n", "0", "!1n"},
        {"max()", "!1n", "n", "!1n"},
        {"min()", "!1n", "n", "!1n"},
        {"type()", "'text'", "'list'", "'object'"},
    };

    public static void main(String[] args) {
        Checks checks = new Checks("promise 5, words");
        checkLength(checks);
        checkKeys(checks);
        checkValues(checks);
        checkSortNumbers(checks);
        checkSortTexts(checks);
        checkSortByKey(checks);
        checkSortKeepsOrder(checks);
        checkReverse(checks);
        checkSum(checks);
        checkMaxAndMin(checks);
        checkType(checks);
        checkEmpty(checks);
        checkWrongKind(checks);
        checkWrongElement(checks);
        checkWrongAtKey(checks);
        checkOtherStages(checks);
        checks.end();
    }

    private static void checkLength(Checks checks) {
        checks.of("length: how many characters, elements or keys v has");
        checks.dueAnswer("''", "length()", "0");
        checks.dueAnswer("'1234567'", "length()", "7");
        checks.dueAnswer("[]", "length()", "0");
        checks.dueAnswer("[n,[1,2]]", "length()", "2");
        checks.dueAnswer("[" + "n,".repeat(78) + "11]", "length()", "79");
        checks.dueAnswer("{}", "length()", "0");
        checks.dueAnswer("{a:[1,2],b:n}", "length()", "2");
        checks.dueAnswer("{a:1,b:2,a:3}", "length()", "2");
    }

    private static void checkKeys(Checks checks) {
        checks.of("keys: the list of its keys as texts, in order");
        checks.dueAnswer("{}", "keys()", "[]");
        checks.dueAnswer("{a:n}", "keys()", "['a']");
        checks.dueAnswer("{z:1,abcdefg:2,m:3}", "keys()", "['z','abcdefg','m']");
        checks.dueAnswer("{b:1,a:2,b:3}", "keys()", "['b','a']");
        checks.dueAnswer("{b:1,a:2}", "keys()|[0]|type()", "'text'");
        checks.dueAnswer("{b:1,a:2}", "keys()|[?@=='a']", "['a']");
    }

    private static void checkValues(Checks checks) {
        checks.of("values: that of its values");
        checks.dueAnswer("{}", "values()", "[]");
        checks.dueAnswer("{a:n}", "values()", "[n]");
        checks.dueAnswer("{z:1,a:n,m:[n]}", "values()", "[1,n,[n]]");
        checks.dueAnswer("{b:1,a:2,b:3}", "values()", "[3,2]");
    }

    private static void checkSortNumbers(Checks checks) {
        checks.of("sort: the numbers ... of a list, ascending");
        checks.dueAnswer("[]", "sort()", "[]");
        checks.dueAnswer("[7]", "sort()", "[7]");
        checks.dueAnswer("[2,1]", "sort()", "[1,2]");
        checks.dueAnswer("[3,-1,10,0,-10,3,2]", "sort()", "[-10,-1,0,2,3,3,10]");
        checks.dueAnswer("[999999,-999999,0]", "sort()", "[-999999,0,999999]");
        checks.dueAnswer("[1,2,3,4,5]", "sort()", "[1,2,3,4,5]");
        checks.dueAnswer("[5,4,3,2,1]", "sort()", "[1,2,3,4,5]");
    }

    private static void checkSortTexts(Checks checks) {
        checks.of("or the texts of a list, ascending (texts by their characters; the shorter first if one begins the other)");
        checks.dueAnswer("['b','a']", "sort()", "['a','b']");
        checks.dueAnswer("['ab','a','']", "sort()", "['','a','ab']");
        checks.dueAnswer("['abc','abd','ab','b']", "sort()", "['ab','abc','abd','b']");
        checks.dueAnswer("['b','ab']", "sort()", "['ab','b']");
        checks.dueAnswer("['10','9','1']", "sort()", "['1','10','9']");
        checks.dueAnswer("['a','B','~',' ','0']", "sort()", "[' ','0','B','a','~']");
        checks.dueAnswer("['a','a ']", "sort()", "['a','a ']");
        checks.dueAnswer("['1234567','123456']", "sort()", "['123456','1234567']");
        checks.dueAnswer("['x','x']", "sort()", "['x','x']");
    }

    private static void checkSortByKey(Checks checks) {
        checks.of("with a key: a list of objects by what they have at this key");
        checks.dueAnswer("[]", "sort(k)", "[]");
        checks.dueAnswer("[{k:1}]", "sort(k)", "[{k:1}]");
        checks.dueAnswer("[{k:2,a:1},{a:3,k:-1},{k:0}]", "sort(k)", "[{a:3,k:-1},{k:0},{k:2,a:1}]");
        checks.dueAnswer("[{k:'b'},{k:''},{k:'ab'},{k:'a'}]", "sort(k)", "[{k:''},{k:'a'},{k:'ab'},{k:'b'}]");
        checks.dueAnswer("[{k:2,a:1},{k:1,a:2}]", "sort(a)", "[{k:2,a:1},{k:1,a:2}]");
        checks.dueAnswer("[{sort:2},{sort:1}]", "sort(sort)", "[{sort:1},{sort:2}]");
    }

    private static void checkSortKeepsOrder(Checks checks) {
        checks.of("those that are equal in the order they had");
        checks.dueAnswer("[{k:1,a:1},{k:1,a:2},{k:1,a:3}]", "sort(k)", "[{k:1,a:1},{k:1,a:2},{k:1,a:3}]");
        checks.dueAnswer("[{k:1,a:3},{k:1,a:2},{k:1,a:1}]", "sort(k)", "[{k:1,a:3},{k:1,a:2},{k:1,a:1}]");
        checks.dueAnswer("[{k:2,a:1},{k:1,a:2},{k:2,a:3},{k:1,a:4}]", "sort(k)|[*].a", "[2,4,1,3]");
        checks.dueAnswer("[{k:'b',a:1},{k:'a',a:2},{k:'b',a:3},{k:'a',a:4}]", "sort(k)|[*].a", "[2,4,1,3]");
        checks.dueAnswer("[{k:3,a:1},{k:2,a:2},{k:1,a:3},{k:3,a:4},{k:2,a:5},{k:1,a:6},{k:3,a:7},{k:1,a:8}]", "sort(k)|[*].a",
            "[3,6,8,2,5,1,4,7]");
    }

    private static void checkReverse(Checks checks) {
        checks.of("reverse: a list or text the other way round");
        checks.dueAnswer("[]", "reverse()", "[]");
        checks.dueAnswer("[1]", "reverse()", "[1]");
        checks.dueAnswer("[1,n,[2,3],'ab']", "reverse()", "['ab',[2,3],n,1]");
        checks.dueAnswer("''", "reverse()", "''");
        checks.dueAnswer("'a'", "reverse()", "'a'");
        checks.dueAnswer("'ab'", "reverse()", "'ba'");
        checks.dueAnswer("' abcde'", "reverse()", "'edcba '");
        checks.dueAnswer("'1234567'", "reverse()", "'7654321'");
    }

    /** No list that a text can hold has a sum that wraps; the greatest and the least one there are stand here. */
    private static void checkSum(Checks checks) {
        checks.of("sum: of a list of numbers (wraps; 0 of none)");
        checks.dueAnswer("[]", "sum()", "0");
        checks.dueAnswer("[7]", "sum()", "7");
        checks.dueAnswer("[-7]", "sum()", "-7");
        checks.dueAnswer("[1,-1]", "sum()", "0");
        checks.dueAnswer("[1,2,-5]", "sum()", "-2");
        checks.dueAnswer("[" + "999999,".repeat(21) + "999999]", "sum()", "21999978");
        checks.dueAnswer("[" + "-999999,".repeat(18) + "-999999]", "sum()", "-18999981");
        checks.dueAnswer("[n,1,n]", "[*]|sum()", "1");
        checks.dueAnswer("[n,n]", "[*]|sum()", "0");
    }

    private static void checkMaxAndMin(Checks checks) {
        checks.of("max, min: of a list of numbers or of texts; NULL of an empty list");
        String[][] rows = {
            // a list, the greatest of it, the least
            {"[]", "n", "n"}, {"[0]", "0", "0"}, {"[-7]", "-7", "-7"}, {"[1,3,-2]", "3", "-2"}, {"[3,1,2]", "3", "1"}, {"[1,2,3]", "3", "1"},
            {"[-1,-2]", "-1", "-2"}, {"[5,5]", "5", "5"}, {"[999999,-999999]", "999999", "-999999"}, {"['']", "''", "''"},
            {"['a','']", "'a'", "''"}, {"['b','ba','a']", "'ba'", "'a'"}, {"['ab','a']", "'ab'", "'a'"}, {"['10','9']", "'9'", "'10'"},
            {"['a','B']", "'a'", "'B'"},
        };
        for (String[] row : rows) {
            checks.dueAnswer(row[0], "max()", row[1]);
            checks.dueAnswer(row[0], "min()", row[2]);
        }
        checks.dueAnswer("[]", "max()|type()", "'none'");
    }

    private static void checkType(Checks checks) {
        checks.of("type: the text none, truth, number, text, list or object");
        String[][] rows = {
            {"n", "none"}, {"f", "truth"}, {"t", "truth"}, {"0", "number"}, {"-1", "number"}, {"''", "text"}, {"'n'", "text"},
            {"[]", "list"}, {"[n]", "list"}, {"{}", "object"}, {"{a:n}", "object"},
        };
        for (String[] row : rows) {
            checks.dueAnswer(row[0], "type()", "'" + row[1] + "'");
        }
        checks.dueAnswer("n", "type()|type()", "'text'");
    }

    private static void checkEmpty(Checks checks) {
        checks.of("WORDS, with an empty text, list or object");
        for (String[] row : GIVEN_OF_EMPTY) {
            for (int i = 0; i < EMPTY.length; i++) {
                checks.dueAnswer(EMPTY[i], row[0], row[i + 1]);
            }
        }
    }

    private static void checkWrongKind(Checks checks) {
        checks.of("FAILURE 1: v is not of a kind that the word takes.");
        for (String[] row : GIVEN) {
            for (int i = 0; i < KINDS.length; i++) {
                checks.dueAnswer(KINDS[i], row[0], row[i + 1]);
            }
        }
    }

    private static void checkWrongElement(Checks checks) {
        checks.of("FAILURE 2: an element of a list ... is not (for sort, max and min: neither all numbers nor all texts");
        String[] mixed = {"[1,'a']", "['a',1]", "[1,2,'a']", "['a','b',1]", "[1,'a',2]"};
        String[] strange = {"n", "f", "t", "[]", "[1]", "{}", "{k:1}"};
        String[] words = {"sort()", "max()", "min()", "sum()"};
        for (String word : words) {
            for (String list : mixed) {
                checks.dueAnswer(list, word, "!2n");
            }
            for (String item : strange) {
                checks.dueAnswer("[" + item + "]", word, "!2n");
                checks.dueAnswer("[" + item + ",1]", word, "!2n");
                checks.dueAnswer("[1," + item + "]", word, "!2n");
                checks.dueAnswer("['a'," + item + "]", word, "!2n");
                checks.dueAnswer("[" + item + "," + item + "]", word, "!2n");
            }
        }
        checks.dueAnswer("['a']", "sum()", "!2n");
        checks.dueAnswer("['a','b']", "sum()", "!2n");
        checks.dueAnswer("[n,1,'a',[]]", "length()", "4");
        checks.dueAnswer("[n,1,'a',[]]", "reverse()", "[[],'a',1,n]");
        checks.dueAnswer("[n,1,'a',[]]", "type()", "'list'");
    }

    private static void checkWrongAtKey(Checks checks) {
        checks.of("FAILURE 2: ... or what it has at the key, is not (...; for sort with a key also elements that are no objects)");
        String[] at = {"n", "f", "t", "[]", "[1]", "{}"};
        for (String value : at) {
            checks.dueAnswer("[{k:" + value + "}]", "sort(k)", "!2n");
            checks.dueAnswer("[{k:1},{k:" + value + "}]", "sort(k)", "!2n");
            checks.dueAnswer("[{k:" + value + "},{k:'a'}]", "sort(k)", "!2n");
            checks.dueAnswer("[{k:1,a:" + value + "}]", "sort(k)", "[{k:1,a:" + value + "}]");
        }
        String[] elements = {"n", "f", "t", "1", "'k'", "[]", "[1]", "{}", "{a:1}"};
        for (String element : elements) {
            checks.dueAnswer("[" + element + "]", "sort(k)", "!2n");
            checks.dueAnswer("[{k:1}," + element + "]", "sort(k)", "!2n");
            checks.dueAnswer("[" + element + ",{k:'a'}]", "sort(k)", "!2n");
        }
        checks.dueAnswer("[{k:1},{k:'a'}]", "sort(k)", "!2n");
        checks.dueAnswer("[{k:'a'},{k:1}]", "sort(k)", "!2n");
        checks.dueAnswer("[2,1]", "sort(k)", "!2n");
        checks.dueAnswer("[{k:1}]", "sort()", "!2n");
    }

    private static void checkOtherStages(Checks checks) {
        checks.of("The query's result is NULL then, and the other stages are not done.");
        checks.dueAnswer("n", "length()|type()", "!1n");
        checks.dueAnswer("['a',1]", "sort()|type()", "!2n");
        checks.dueAnswer("['a',1]", "sort()|length()", "!2n");
        checks.dueAnswer("['a',1]", "keys()|sort()", "!1n");
        checks.dueAnswer("[1]", "[0]|sum()|@|type()", "!1n");
        checks.dueAnswer("[1]", "type()|sum()|type()", "!1n");
        checks.dueAnswer("[]", "max()|max()", "!1n");
        checks.dueAnswer("[]", "max()|type()", "'none'");
        PickDesk desk = Checks.deskWith("[7,'a']");
        Checks.query(desk, "[0]");
        Checks.query(desk, "sum()|type()");
        Checks.query(desk, "[0]|keys()");
        checks.due("a result", Checks.answer(desk, 0), "7");
        checks.due("failure 2 behind it", Checks.answer(desk, 1), "!2n");
        checks.due("a result behind a failure", Checks.answer(desk, 0), "7");
        checks.due("failure 1 behind it", Checks.answer(desk, 2), "!1n");
        checks.due("the kind of the result", desk.result(0), 0);
        checks.due("the document's values", desk.about(3), 3);
    }
}
