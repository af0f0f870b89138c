/** Promise 5, run, with stages, parts and steps: a check of each sentence that names a boundary, in the document's order. */
public final class Promise5StepsSentencesTest {
    /** A value of each kind, and empty ones. */
    private static final String[] KINDS = {"n", "f", "t", "0", "7", "''", "'ab'", "[]", "[1,2]", "{}", "{b:1}"};

    public static void main(String[] args) {
        Checks checks = new Checks("promise 5, steps");
        checkStages(checks);
        checkNoSteps(checks);
        checkKey(checks);
        checkStepsBehindNull(checks);
        checkIndex(checks);
        checkNegativeIndex(checks);
        checkProjection(checks);
        checkWithoutNulls(checks);
        checkNotOfTheKind(checks);
        checkAll(checks);
        checkObjectValues(checks);
        checkFlatMustBeList(checks);
        checkFlatOnce(checks);
        checkFlatParts(checks);
        checkAnswersNone(checks);
        checkNoSuchQuery(checks);
        checkDocumentStays(checks);
        checks.end();
    }

    private static boolean isList(String value) {
        return value.startsWith("[");
    }

    private static boolean isObject(String value) {
        return value.startsWith("{");
    }

    private static void checkStages(Checks checks) {
        checks.of("A STAGE gets a value (the first one that of the document, each other one what the stage before gave)");
        checks.dueAnswer("{a:{b:{c:5}}}", "a|b|c", "5");
        checks.dueAnswer("{a:{b:{c:5}}}", "a|a", "n");
        checks.dueAnswer("[[1,2],[3]]", "[*]|[0]", "[1,2]");
        checks.dueAnswer("[[1,2],[3]]", "[*][0]", "[1,3]");
        checks.dueAnswer("[n,[1]]", "[*]|[0]|[0]", "1");
        checks.dueAnswer("[3,1,2]", "sort()|[0]|type()|length()", "6");
        checks.dueAnswer("{a:1}", "b|c|[0]|type()", "'none'");
        checks.dueAnswer("[1]", "@|".repeat(78) + "[0]", "1");
    }

    private static void checkNoSteps(Checks checks) {
        checks.of("A part with no steps gives the value itself.");
        for (String value : KINDS) {
            checks.dueAnswer(value, "@", value);
            checks.dueAnswer(value, "@|@", value);
        }
        checks.dueAnswer("[n,[n]]", "@", "[n,[n]]");
        checks.dueAnswer("[n,[n,1]]", "[]", "[1]");
        checks.dueAnswer("[n,[n,1]]", "@[]", "[1]");
    }

    private static void checkKey(Checks checks) {
        checks.of("for a key: with the value of that key, or NULL if v is no object or has no such key");
        for (String value : KINDS) {
            checks.dueAnswer(value, "a", "n");
            checks.dueAnswer(value, "@.a", "n");
            checks.dueAnswer("{a:" + value + "}", "a", value);
            checks.dueAnswer("{b:" + value + ",a:1}", "b", value);
            checks.dueAnswer("{b:" + value + ",a:1}", "a", "1");
            checks.dueAnswer("{b:" + value + "}", "a", "n");
        }
        checks.dueAnswer("{abcdefg:1,abcdef:2}", "abcdefg", "1");
        checks.dueAnswer("{abcdefg:1,abcdef:2}", "abcdef", "2");
        checks.dueAnswer("{abcdefg:1,abcdef:2}", "abcde", "n");
        checks.dueAnswer("{a:1,b:2,a:3}", "a", "3");
        checks.dueAnswer("['a']", "a", "n");
        checks.dueAnswer("[{a:1}]", "a", "n");
        checks.dueAnswer("{a:{b:{c:{d:7}}}}", "a.b.c.d", "7");
    }

    private static void checkStepsBehindNull(Checks checks) {
        checks.of("or NULL ..., what steps i + 1 and on give");
        String[] steps = {".b", "[0]", "[-1]", "[*]", "[:]", "[::-1]", "[?@]", "[?1==1]", ".*", "[]", "[].b", ".b.c.d"};
        for (String step : steps) {
            checks.dueAnswer("{b:1}", "a" + step, "n");
            checks.dueAnswer("{a:n}", "a" + step, "n");
            checks.dueAnswer("[]", "[0]" + step, "n");
            checks.dueAnswer("[n]", "[0]" + step, "n");
            checks.dueAnswer("[n,n]", "[*]" + step, "[]");
        }
    }

    private static void checkIndex(Checks checks) {
        checks.of("for [k]: likewise with element k of a list ..., else NULL");
        checks.dueAnswer("[5,6,7]", "[0]", "5");
        checks.dueAnswer("[5,6,7]", "[1]", "6");
        checks.dueAnswer("[5,6,7]", "[2]", "7");
        checks.dueAnswer("[5,6,7]", "[3]", "n");
        checks.dueAnswer("[5,6,7]", "[999999]", "n");
        checks.dueAnswer("[5,6,7]", "[-0]", "5");
        checks.dueAnswer("[5]", "[0]", "5");
        checks.dueAnswer("[5]", "[1]", "n");
        checks.dueAnswer("[n,1]", "[0]", "n");
        checks.dueAnswer("[[1,2],{a:[3,4]}]", "[1].a[0]", "3");
        for (String value : KINDS) {
            checks.dueAnswer("[" + value + "]", "[0]", value);
            if (!isList(value)) {
                checks.dueAnswer(value, "[0]", "n");
            }
        }
        checks.dueAnswer("[]", "[0]", "n");
        checks.dueAnswer("{a:1,b:2}", "[0]", "n");
    }

    private static void checkNegativeIndex(Checks checks) {
        checks.of("(of a negative k: k from the end, -1 the last)");
        checks.dueAnswer("[5,6,7]", "[-1]", "7");
        checks.dueAnswer("[5,6,7]", "[-2]", "6");
        checks.dueAnswer("[5,6,7]", "[-3]", "5");
        checks.dueAnswer("[5,6,7]", "[-4]", "n");
        checks.dueAnswer("[5,6,7]", "[-5]", "n");
        checks.dueAnswer("[5,6,7]", "[-999999]", "n");
        checks.dueAnswer("[5]", "[-1]", "5");
        checks.dueAnswer("[5]", "[-2]", "n");
        for (String value : KINDS) {
            if (!value.equals("[1,2]")) {
                checks.dueAnswer(value, "[-1]", "n");
            }
        }
    }

    private static void checkProjection(Checks checks) {
        checks.of("The others PROJECT: there are ELEMENTS, and the list of what steps i + 1 and on give of each");
        checks.dueAnswer("[{a:1},{a:2}]", "[*].a", "[1,2]");
        checks.dueAnswer("[[1,2],[3,4]]", "[*][1]", "[2,4]");
        checks.dueAnswer("[[1,2],[3,4]]", "[*][*]", "[[1,2],[3,4]]");
        checks.dueAnswer("[[1,2],[3,4]]", "[1:][*]", "[[3,4]]");
        checks.dueAnswer("{x:{a:1},y:{a:2}}", "@.*.a", "[1,2]");
        checks.dueAnswer("[{a:1,b:5},{a:0,b:6},{b:7}]", "[?a].b", "[5,6]");
        checks.dueAnswer("{a:[{b:[1,2]},{b:[3]}]}", "a[*].b[*]", "[[1,2],[3]]");
        checks.dueAnswer("[[[[1]]]]", "[*][*][*][*]", "[[[[1]]]]");
    }

    private static void checkWithoutNulls(Checks checks) {
        checks.of("without the NULLs, is given");
        String[] projections = {"[*]", "[:]", "[?1==1]", "[]"};
        for (String step : projections) {
            checks.dueAnswer("[1,n,2,n]", step, "[1,2]");
            checks.dueAnswer("[n]", step, "[]");
            checks.dueAnswer("[n,n,n]", step, "[]");
            checks.dueAnswer("[f,0,'',{}]", step, "[f,0,'',{}]");
            checks.dueAnswer("[{a:1},{a:n},{},3]", step + ".a", "[1]");
            checks.dueAnswer("[{b:1},3]", step + ".a", "[]");
        }
        checks.dueAnswer("{a:1,b:n,c:2}", "@.*", "[1,2]");
        checks.dueAnswer("{a:n}", "@.*", "[]");
        checks.dueAnswer("[n,1]", "[::-1]", "[1]");
        checks.dueAnswer("[[n],[n,1],n]", "[*][*]", "[[],[1]]");
        checks.dueAnswer("[[n],[n,1],n]", "[*]", "[[n],[n,1]]");
        checks.dueAnswer("[[n,[n,1]]]", "[*]", "[[n,[n,1]]]");
    }

    private static void checkNotOfTheKind(Checks checks) {
        checks.of("or NULL, when v is not of the kind");
        String[] ofLists = {"[*]", "[:]", "[::-1]", "[1:2]", "[?@]", "[?1==1]", "[]", "[*].a", "[].a"};
        for (String value : KINDS) {
            for (String step : ofLists) {
                if (!isList(value)) {
                    checks.dueAnswer(value, step, "n");
                }
            }
            if (!isObject(value)) {
                checks.dueAnswer(value, "@.*", "n");
                checks.dueAnswer(value, "@.*.a", "n");
            }
        }
        checks.dueAnswer("[1,[2],{a:3},'x']", "[*][*]", "[[2]]");
        checks.dueAnswer("[1,[2],{a:3},'x']", "[*].*", "[[3]]");
        checks.dueAnswer("[1,[2],{a:3},'x']", "[*][:]", "[[2]]");
        checks.dueAnswer("[1,[2],{a:3},'x']", "[*][?@]", "[[2]]");
    }

    private static void checkAll(Checks checks) {
        checks.of("[*]: the elements of a list");
        checks.dueAnswer("[]", "[*]", "[]");
        checks.dueAnswer("[1]", "[*]", "[1]");
        checks.dueAnswer("[[],{},'']", "[*]", "[[],{},'']");
        checks.dueAnswer("[[],[[]]]", "[*][*]", "[[],[[]]]");
        String full = "[" + "1,".repeat(78) + "11]";
        checks.dueAnswer(full, "[*]", full);
    }

    private static void checkObjectValues(Checks checks) {
        checks.of(".*: the values of an object, in order");
        checks.dueAnswer("{}", "@.*", "[]");
        checks.dueAnswer("{z:1,a:2,m:3}", "@.*", "[1,2,3]");
        checks.dueAnswer("{z:1,a:2,z:3}", "@.*", "[3,2]");
        checks.dueAnswer("{a:{c:1,b:2},b:{},c:[3]}", "@.*.*", "[[1,2],[]]");
        checks.dueAnswer("{a:{c:1,b:2}}", "a.*", "[1,2]");
        checks.dueAnswer("[{a:1},{},2]", "[*].*", "[[1],[]]");
    }

    private static void checkFlatMustBeList(Checks checks) {
        checks.of("[]: what the part ahead of it gave must be a list, else NULL is given, and by all further parts");
        for (String value : KINDS) {
            if (!isList(value)) {
                checks.dueAnswer(value, "[]", "n");
                checks.dueAnswer(value, "[].a", "n");
                checks.dueAnswer(value, "[][]", "n");
                checks.dueAnswer(value, "[].a[].b[]", "n");
                checks.dueAnswer("{a:" + value + "}", "a[]", "n");
                checks.dueAnswer("{a:" + value + "}", "a[].b[*][]", "n");
            }
        }
        checks.dueAnswer("[{a:1},{a:[2]}]", "[0].a[]", "n");
        checks.dueAnswer("[]", "[]", "[]");
        checks.dueAnswer("[]", "[][]", "[]");
        checks.dueAnswer("[]", "[0][]", "n");
        checks.dueAnswer("{a:1}", "[][]|type()", "'none'");
    }

    private static void checkFlatOnce(Checks checks) {
        checks.of("of its elements those that are lists are replaced by their elements (once)");
        checks.dueAnswer("[[1,2],3,[],[[4]]]", "[]", "[1,2,3,[4]]");
        checks.dueAnswer("[[1,2],3,[],[[4]]]", "[][]", "[1,2,3,4]");
        checks.dueAnswer("[[[[1]]]]", "[]", "[[[1]]]");
        checks.dueAnswer("[[[[1]]]]", "[][]", "[[1]]");
        checks.dueAnswer("[[[[1]]]]", "[][][]", "[1]");
        checks.dueAnswer("[[[[1]]]]", "[][][][]", "[1]");
        checks.dueAnswer("[[],[],[]]", "[]", "[]");
        checks.dueAnswer("[[[]]]", "[]", "[[]]");
        checks.dueAnswer("[{a:[1]},'ab',[{b:2}]]", "[]", "[{a:[1]},'ab',{b:2}]");
        checks.dueAnswer("[[1],[2,[3]]]", "[*][]", "[1,2,[3]]");
        checks.dueAnswer("[[1],[2,[3]]]", "[]|[]", "[1,2,3]");
    }

    private static void checkFlatParts(Checks checks) {
        checks.of("the list of what the next part gives of each (itself, if that has no steps), without the NULLs, is given");
        checks.dueAnswer("[[1,n],n,[[n]]]", "[]", "[1,[n]]");
        checks.dueAnswer("[[1,n],n,[[n]]]", "[][]", "[1]");
        checks.dueAnswer("[[{a:1},{b:2}],{a:3},4]", "[].a", "[1,3]");
        checks.dueAnswer("[[[1,2],[3]],[[4]]]", "[][0]", "[1,3,4]");
        checks.dueAnswer("[[[1,2],[3]],[[4]]]", "[][1]", "[2]");
        checks.dueAnswer("[[[1,2],[3]],[[4]]]", "[][*]", "[[1,2],[3],[4]]");
        checks.dueAnswer("[[[1,2],[3]],[[4]]]", "[][*][]", "[1,2,3,4]");
        checks.dueAnswer("[[[1,2],[3]],[[4]]]", "[*][0][]", "[1,2,4]");
        checks.dueAnswer("[{a:[[1,2],3]},{a:[]}]", "[*].a[][]", "[1,2,3]");
        checks.dueAnswer("{a:[{b:[1,2]},{b:3}]}", "a[].b[]", "[1,2,3]");
        checks.dueAnswer("{a:[{b:[1,2]},{b:3}]}", "a[].b", "[[1,2],3]");
        checks.dueAnswer("[[1,2],[3]]", "[][1:]", "[]");
        checks.dueAnswer("[[1,2],[3]]", "[]|[1:]", "[2,3]");
        checks.dueAnswer("[[{a:2},{a:1}]]", "[]|[?a<2]", "[{a:1}]");
        checks.dueAnswer("[[{a:2},{a:1}]]", "[][?a<2]", "[]");
    }

    private static void checkAnswersNone(Checks checks) {
        checks.of("Answers 0 or the failure (0 also of a NULL without one).");
        PickDesk desk = Checks.deskWith("{a:n,b:[]}");
        String[] queries = {"@", "a", "c", "b[0]", "b|max()", "b[*].x", "a[]"};
        for (String query : queries) {
            checks.due("run " + query, desk.run(Checks.query(desk, query)), 0);
        }
        checks.due("its kind", desk.result(0), 0);
        checks.due("failure 1", desk.run(Checks.query(desk, "a|length()")), 1);
        checks.due("no failure behind a failure", desk.run(1), 0);
        checks.due("failure 2", Checks.answer("[n]", "sum()"), "!2n");
    }

    private static void checkNoSuchQuery(Checks checks) {
        checks.of("IllegalArgumentException: there is no such query (the result stays).");
        PickDesk desk = Checks.deskWith("[1,2]");
        checks.dueThrown("run 0 of none", () -> desk.run(0), "IllegalArgumentException");
        for (int count = 1; count <= 12; count++) {
            Checks.query(desk, "[1]");
            int last = count - 1;
            checks.dueThrown("run the last one", () -> desk.run(last), "nothing");
            int[] wrong = {count, count + 1, 12, 13, -1, -2, Integer.MIN_VALUE, Integer.MAX_VALUE};
            for (int q : wrong) {
                checks.dueThrown("run " + q, () -> desk.run(q), "IllegalArgumentException");
                checks.due("the result stays", Checks.written(desk), "2");
            }
        }
        checks.due("the document stays", desk.about(3), 3);
    }

    private static void checkDocumentStays(Checks checks) {
        checks.of("A query is answered for the document.");
        PickDesk desk = Checks.deskWith("[3,n,[1]]");
        String[] queries = {"[]|sort()", "reverse()", "[*]", "[2]", "@"};
        String[] want = {"[1,3]", "[[1],n,3]", "[3,[1]]", "[1]", "[3,n,[1]]"};
        for (String query : queries) {
            Checks.query(desk, query);
        }
        for (int i = 0; i < 2 * queries.length; i++) {
            int q = i % queries.length;
            checks.due("run " + queries[q], Checks.answer(desk, q), want[q]);
        }
        Checks.load(desk, "[[5],4]");
        checks.due("of another document", Checks.answer(desk, 0), "[4,5]");
    }
}
