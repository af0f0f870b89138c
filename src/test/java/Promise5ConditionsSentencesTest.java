/** Promise 5, run, with conditions: a check of each sentence that names a boundary, in the document's order. */
public final class Promise5ConditionsSentencesTest {
    /** Values of which no two are the same. */
    private static final String[] VALUES = {
        "n", "f", "t", "0", "1", "-1", "999999", "''", "'0'", "'1'", "'n'", "'ab'", "'aB'", "' ab'", "[]", "[n]", "[0]", "[0,1]",
        "[1,0]", "[[]]", "[[0]]", "['0']", "{}", "{a:n}", "{b:n}", "{a:0}", "{a:0,b:1}", "{a:1,b:0}", "{a:[0]}", "[{a:0}]",
    };

    public static void main(String[] args) {
        Checks checks = new Checks("promise 5, conditions");
        checkThoseThatHold(checks);
        checkWithoutSign(checks);
        checkSame(checks);
        checkNullIsNull(checks);
        checkListsInOrder(checks);
        checkObjectsInAnyOrder(checks);
        checkTwoNumbers(checks);
        checkTwoNumbersAlone(checks);
        checkSideKeys(checks);
        checkSideNull(checks);
        checkSaid(checks);
        checks.end();
    }

    /** Whether a condition holds for one element; not for a NULL, as it would be left out in any case. */
    private static void dueHolds(Checks checks, String element, String condition, boolean holds) {
        checks.dueAnswer("[" + element + "]", "[?" + condition + "]|length()", holds ? "1" : "0");
    }

    private static void checkThoseThatHold(Checks checks) {
        checks.of("[? ]: those elements of a list for which the condition holds");
        checks.dueAnswer("[1,2,3]", "[?@>1]", "[2,3]");
        checks.dueAnswer("[3,1,2]", "[?@!=1]", "[3,2]");
        checks.dueAnswer("[1,2,3]", "[?@>3]", "[]");
        checks.dueAnswer("[]", "[?@>3]", "[]");
        checks.dueAnswer("[]", "[?1==1]", "[]");
        checks.dueAnswer("[n,1]", "[?@==@]", "[1]");
        checks.dueAnswer("[n]", "[?@!=1]", "[]");
        checks.dueAnswer("[{a:1,b:2},{a:1},{b:3}]", "[?a].b", "[2]");
        checks.dueAnswer("[[1,2],[3]]", "[*][?@<3]", "[[1,2],[]]");
    }

    private static void checkWithoutSign(Checks checks) {
        checks.of("A CONDITION without a sign holds when the side's value is neither NULL, FALSE, nor an empty text, list or object.");
        String[] no = {"n", "f", "''", "[]", "{}"};
        String[] yes = {"t", "0", "-1", "7", "' '", "'f'", "[n]", "[[]]", "{a:n}", "{a:{}}"};
        for (String value : no) {
            dueHolds(checks, "{a:" + value + "}", "a", false);
            dueHolds(checks, "{a:" + value + "}", "@.a", false);
            checks.dueAnswer("[" + value + "]", "[?@]", "[]");
        }
        for (String value : yes) {
            dueHolds(checks, "{a:" + value + "}", "a", true);
            dueHolds(checks, "{a:" + value + "}", "@.a", true);
            checks.dueAnswer("[" + value + "]", "[?@]", "[" + value + "]");
        }
        dueHolds(checks, "f", "''", false);
        dueHolds(checks, "f", "' '", true);
        dueHolds(checks, "f", "0", true);
        dueHolds(checks, "f", "-1", true);
    }

    private static void checkSame(Checks checks) {
        checks.of("== and != compare whole values (of one kind");
        for (int i = 0; i < VALUES.length; i++) {
            for (int k = 0; k < VALUES.length; k++) {
                String element = "{a:" + VALUES[i] + ",b:" + VALUES[k] + "}";
                dueHolds(checks, element, "a==b", i == k);
                dueHolds(checks, element, "a!=b", i != k);
            }
        }
        dueHolds(checks, "{a:-0,b:000000}", "a==b", true);
    }

    private static void checkNullIsNull(Checks checks) {
        checks.of("NULL is as NULL");
        dueHolds(checks, "{a:n,b:n}", "a==b", true);
        dueHolds(checks, "{a:n}", "a==b", true);
        dueHolds(checks, "{}", "a==b", true);
        dueHolds(checks, "{}", "a!=b", false);
        dueHolds(checks, "7", "a==b.c", true);
        dueHolds(checks, "{a:f}", "a==b", false);
        dueHolds(checks, "{a:''}", "a!=b", true);
        dueHolds(checks, "{a:[n],b:[n]}", "a==b", true);
        dueHolds(checks, "{a:[n],b:[]}", "a==b", false);
    }

    private static void checkListsInOrder(Checks checks) {
        checks.of("lists: in order");
        dueHolds(checks, "{a:[1,2],b:[1,2]}", "a==b", true);
        dueHolds(checks, "{a:[1,2],b:[2,1]}", "a==b", false);
        dueHolds(checks, "{a:[1,2],b:[1]}", "a==b", false);
        dueHolds(checks, "{a:[1],b:[1,2]}", "a==b", false);
        dueHolds(checks, "{a:[1,1],b:[1]}", "a==b", false);
        dueHolds(checks, "{a:[[1],2],b:[[1],2]}", "a==b", true);
        dueHolds(checks, "{a:[[1],2],b:[1,[2]]}", "a==b", false);
        dueHolds(checks, "{a:[[1],[2]],b:[[1],[3]]}", "a!=b", true);
    }

    private static void checkObjectsInAnyOrder(Checks checks) {
        checks.of("objects: the same keys with the same values, in any order");
        dueHolds(checks, "{a:{x:1,y:2,z:3},b:{z:3,x:1,y:2}}", "a==b", true);
        dueHolds(checks, "{a:{x:1,y:2},b:{y:2,x:1}}", "a!=b", false);
        dueHolds(checks, "{a:{x:1,y:2},b:{x:2,y:1}}", "a==b", false);
        dueHolds(checks, "{a:{x:1},b:{x:1,y:2}}", "a==b", false);
        dueHolds(checks, "{a:{x:1,y:2},b:{x:1}}", "a==b", false);
        dueHolds(checks, "{a:{x:n},b:{y:n}}", "a==b", false);
        dueHolds(checks, "{a:{x:n},b:{}}", "a==b", false);
        dueHolds(checks, "{a:{x:1,x:2},b:{x:2}}", "a==b", true);
        dueHolds(checks, "{a:{x:{p:1,q:2}},b:{x:{q:2,p:1}}}", "a==b", true);
        dueHolds(checks, "{a:[{p:1,q:2}],b:[{q:2,p:1}]}", "a==b", true);
        dueHolds(checks, "{a:{x:[1,2]},b:{x:[2,1]}}", "a==b", false);
    }

    private static void checkTwoNumbers(Checks checks) {
        checks.of("the others hold for two numbers");
        int[] numbers = {-999999, -2, -1, 0, 1, 2, 999999};
        for (int left : numbers) {
            for (int right : numbers) {
                String element = "{a:" + left + ",b:" + right + "}";
                dueHolds(checks, element, "a<b", left < right);
                dueHolds(checks, element, "a<=b", left <= right);
                dueHolds(checks, element, "a>b", left > right);
                dueHolds(checks, element, "a>=b", left >= right);
                dueHolds(checks, "f", left + "<" + right, left < right);
                dueHolds(checks, "f", left + ">=" + right, left >= right);
            }
        }
    }

    private static void checkTwoNumbersAlone(Checks checks) {
        checks.of("the others hold for two numbers alone");
        String[] signs = {"<", "<=", ">", ">="};
        String[] others = {"n", "f", "t", "''", "'1'", "'a'", "[]", "[1]", "{}", "{a:1}"};
        for (String sign : signs) {
            for (String other : others) {
                dueHolds(checks, "{a:" + other + ",b:1}", "a" + sign + "b", false);
                dueHolds(checks, "{a:" + other + ",b:-1}", "b" + sign + "a", false);
                dueHolds(checks, "{a:" + other + "}", "a" + sign + "a", false);
            }
            dueHolds(checks, "1", "'a'" + sign + "'b'", false);
            dueHolds(checks, "1", "'b'" + sign + "'a'", false);
            dueHolds(checks, "{a:t,b:f}", "a" + sign + "b", false);
            dueHolds(checks, "{}", "a" + sign + "0", false);
        }
    }

    private static void checkSideKeys(Checks checks) {
        checks.of("A side's value: its keys one after the other, from the element");
        dueHolds(checks, "5", "@==5", true);
        dueHolds(checks, "{a:5}", "a==5", true);
        dueHolds(checks, "{a:5}", "@.a==5", true);
        dueHolds(checks, "{a:{b:5}}", "a.b==5", true);
        dueHolds(checks, "{a:{b:5}}", "b.a==5", false);
        dueHolds(checks, "{a:{b:{c:5}}}", "a.b.c==5", true);
        dueHolds(checks, "{a:{b:{c:5}}}", "5==@.a.b.c", true);
        dueHolds(checks, "{a:{b:{c:5}}}", "a.b==5", false);
        dueHolds(checks, "{a:{b:5},b:6}", "b==6", true);
        dueHolds(checks, "{n:5,t:6,sum:7}", "n==5", true);
        dueHolds(checks, "{n:5,t:6,sum:7}", "sum>t", true);
        checks.dueAnswer("{a:1,b:[{a:2}]}", "b[?a==1]", "[]");
    }

    private static void checkSideNull(Checks checks) {
        checks.of("A side's value: NULL as above");
        String[] elements = {"f", "t", "1", "'a'", "[1]", "[{a:1}]", "{}", "{b:1}", "{a:n}"};
        for (String element : elements) {
            dueHolds(checks, element, "a", false);
            dueHolds(checks, element, "@.a", false);
            dueHolds(checks, element, "a.b.c", false);
            dueHolds(checks, element, "a==x.y.z", true);
            dueHolds(checks, element, "a!=1", true);
            dueHolds(checks, element, "a<1", false);
        }
        dueHolds(checks, "{a:{b:1}}", "a.b.c", false);
    }

    private static void checkSaid(Checks checks) {
        checks.of("A side's value: ... or the number or text");
        dueHolds(checks, "-1", "@==-1", true);
        dueHolds(checks, "0", "@==-0", true);
        dueHolds(checks, "12", "@==000012", true);
        dueHolds(checks, "999999", "999999==@", true);
        dueHolds(checks, "''", "@==''", true);
        dueHolds(checks, "'1234567'", "@=='1234567'", true);
        dueHolds(checks, "' ]'", "@==' ]'", true);
        dueHolds(checks, "1", "@=='1'", false);
        dueHolds(checks, "'1'", "@==1", false);
        dueHolds(checks, "{n:1}", "'n'==n", false);
    }
}
