/** Promise 5, run, with slices: a check of each clause of their sentence, and each bound against the words of it. */
public final class Promise5SlicesSentencesTest {
    private static final String UNSAID = "";
    private static final String[] BOUNDS = {
        UNSAID, "0", "1", "2", "3", "4", "5", "6", "999999", "-0", "-1", "-2", "-3", "-4", "-5", "-6", "-999999",
    };
    private static final String[] STEPS = {UNSAID, "1", "2", "3", "4", "5", "999999", "-1", "-2", "-3", "-4", "-5", "-999999"};

    public static void main(String[] args) {
        Checks checks = new Checks("promise 5, slices");
        checkAbove(checks);
        checkBelow(checks);
        checkFromTheEnd(checks);
        checkNearerAbove(checks);
        checkNearerBelow(checks);
        checkNotSaid(checks);
        checkEmpty(checks);
        checkProjects(checks);
        checkEvery(checks);
        checks.end();
    }

    private static void dueRows(Checks checks, String document, String[][] rows) {
        for (String[] row : rows) {
            checks.dueAnswer(document, row[0], row[1]);
        }
    }

    private static void checkAbove(Checks checks) {
        checks.of("with c (1 if it is not said) above 0: those numbered a, a + c, .. below b");
        dueRows(checks, "[0,1,2,3,4]", new String[][] {
            {"[1:3]", "[1,2]"}, {"[1:3:]", "[1,2]"}, {"[1:3:1]", "[1,2]"}, {"[0:5]", "[0,1,2,3,4]"}, {"[0:1]", "[0]"}, {"[4:5]", "[4]"},
            {"[2:2]", "[]"}, {"[3:1]", "[]"}, {"[0:0]", "[]"}, {"[0:5:2]", "[0,2,4]"}, {"[0:4:2]", "[0,2]"}, {"[1:5:3]", "[1,4]"},
            {"[1:4:3]", "[1]"}, {"[0:5:5]", "[0]"}, {"[0:5:999999]", "[0]"}, {"[4:5:999999]", "[4]"},
        });
    }

    private static void checkBelow(Checks checks) {
        checks.of("below 0: a, a + c, .. above b");
        dueRows(checks, "[0,1,2,3,4]", new String[][] {
            {"[3:1:-1]", "[3,2]"}, {"[4:0:-1]", "[4,3,2,1]"}, {"[4:0:-2]", "[4,2]"}, {"[4:0:-3]", "[4,1]"}, {"[4:1:-3]", "[4]"},
            {"[1:0:-1]", "[1]"}, {"[1:1:-1]", "[]"}, {"[1:3:-1]", "[]"}, {"[0:4:-1]", "[]"}, {"[4:0:-999999]", "[4]"},
        });
    }

    private static void checkFromTheEnd(Checks checks) {
        checks.of("a or b below 0 count from the end (n is added)");
        dueRows(checks, "[0,1,2,3,4]", new String[][] {
            {"[-1:]", "[4]"}, {"[-2:]", "[3,4]"}, {"[-5:]", "[0,1,2,3,4]"}, {"[:-1]", "[0,1,2,3]"}, {"[:-4]", "[0]"}, {"[:-5]", "[]"},
            {"[-3:-1]", "[2,3]"}, {"[-1:-3]", "[]"}, {"[-1:-3:-1]", "[4,3]"}, {"[-1:0:-1]", "[4,3,2,1]"}, {"[4:-5:-1]", "[4,3,2,1]"},
            {"[:-1:-1]", "[]"}, {"[:-2:-1]", "[4]"}, {"[-5::-1]", "[0]"}, {"[-4::-1]", "[1,0]"},
        });
    }

    private static void checkNearerAbove(Checks checks) {
        checks.of("what is out of 0 .. n (c above 0) ... becomes the nearer of these");
        dueRows(checks, "[0,1,2,3,4]", new String[][] {
            {"[0:6]", "[0,1,2,3,4]"}, {"[0:999999]", "[0,1,2,3,4]"}, {"[5:]", "[]"}, {"[6:]", "[]"}, {"[999999:]", "[]"},
            {"[-6:]", "[0,1,2,3,4]"}, {"[-6:2]", "[0,1]"}, {"[-999999:2]", "[0,1]"}, {"[:-6]", "[]"}, {"[:-999999]", "[]"},
            {"[-7::2]", "[0,2,4]"}, {"[-6::2]", "[0,2,4]"}, {"[-999999:999999:3]", "[0,3]"}, {"[999999:-999999]", "[]"},
        });
    }

    private static void checkNearerBelow(Checks checks) {
        checks.of("or -1 .. n - 1 (c below 0) becomes the nearer of these");
        dueRows(checks, "[0,1,2,3,4]", new String[][] {
            {"[5::-1]", "[4,3,2,1,0]"}, {"[6::-2]", "[4,2,0]"}, {"[5::-2]", "[4,2,0]"}, {"[999999:2:-1]", "[4,3]"}, {"[4:5:-1]", "[]"},
            {"[:4:-1]", "[]"}, {"[:5:-1]", "[]"}, {"[:999999:-1]", "[]"}, {"[-6::-1]", "[]"}, {"[-999999::-1]", "[]"},
            {"[4:-6:-1]", "[4,3,2,1,0]"}, {"[4:-999999:-1]", "[4,3,2,1,0]"}, {"[0:-6:-1]", "[0]"}, {"[999999:-999999:-4]", "[4,0]"},
        });
    }

    private static void checkNotSaid(Checks checks) {
        checks.of("not said, they are 0 and n, or n - 1 and -1 (that -1 is not counted from the end)");
        dueRows(checks, "[0,1,2,3,4]", new String[][] {
            {"[:]", "[0,1,2,3,4]"}, {"[::]", "[0,1,2,3,4]"}, {"[:3]", "[0,1,2]"}, {"[3:]", "[3,4]"}, {"[::2]", "[0,2,4]"},
            {"[1::2]", "[1,3]"}, {"[:3:2]", "[0,2]"}, {"[::-1]", "[4,3,2,1,0]"}, {"[::-2]", "[4,2,0]"}, {"[3::-1]", "[3,2,1,0]"},
            {"[0::-1]", "[0]"}, {"[:3:-1]", "[4]"}, {"[3:-1:-1]", "[]"}, {"[:-1:-1]", "[]"}, {"[::-999999]", "[4]"}, {"[::999999]", "[0]"},
        });
        checks.dueAnswer("[0]", "[::-1]", "[0]");
        checks.dueAnswer("[0]", "[:-1:-1]", "[]");
    }

    private static void checkEmpty(Checks checks) {
        checks.of("a slice of an empty list, with each bound said or not");
        for (String from : BOUNDS) {
            for (String end : BOUNDS) {
                checks.dueAnswer("[]", "[" + from + ":" + end + "]", "[]");
                checks.dueAnswer("[]", "[" + from + ":" + end + ":-1]", "[]");
            }
        }
    }

    private static void checkProjects(Checks checks) {
        checks.of("a slice [a:b:c] of a list projects, without the NULLs, or gives NULL");
        checks.dueAnswer("[n,1,n,2]", "[:3]", "[1]");
        checks.dueAnswer("[n,1,n,2]", "[::2]", "[]");
        checks.dueAnswer("[n,1,n,2]", "[::-1]", "[2,1]");
        checks.dueAnswer("[{a:1},{b:2},{a:3}]", "[::-1].a", "[3,1]");
        checks.dueAnswer("[[1,2],[3,4],[5]]", "[1:][:1]", "[[3],[5]]");
        checks.dueAnswer("[[1,2],[3,4],[5]]", "[1:]|[:1]", "[[3,4]]");
        String[] others = {"n", "f", "t", "3", "'abc'", "{}", "{a:1}"};
        for (String value : others) {
            checks.dueAnswer(value, "[:]", "n");
            checks.dueAnswer(value, "[::-1]", "n");
        }
    }

    private static void checkEvery(Checks checks) {
        checks.of("a slice [a:b:c], with every bound and step");
        String[] lists = {"[]", "[0]", "[0,1]", "[0,1,2]", "[0,1,2,3]", "[0,1,2,3,4]"};
        for (int n = 0; n < lists.length; n++) {
            for (String from : BOUNDS) {
                for (String end : BOUNDS) {
                    for (String step : STEPS) {
                        checks.dueAnswer(lists[n], "[" + from + ":" + end + ":" + step + "]", slice(n, from, end, step));
                    }
                }
            }
        }
    }

    /** The document's words, one by one, for the list of the numbers 0 .. n - 1. */
    private static String slice(int n, String from, String end, String step) {
        int c = step.equals(UNSAID) ? 1 : Integer.parseInt(step);
        int a = from.equals(UNSAID) ? (c > 0 ? 0 : n - 1) : nearer(Integer.parseInt(from), n, c);
        int b = end.equals(UNSAID) ? (c > 0 ? n : -1) : nearer(Integer.parseInt(end), n, c);
        StringBuilder out = new StringBuilder();
        for (int i = a; c > 0 ? i < b : i > b; i += c) {
            out.append(out.length() == 0 ? "" : ",").append(i);
        }
        return "[" + out + "]";
    }

    private static int nearer(int said, int n, int c) {
        int place = said < 0 ? said + n : said;
        int low = c > 0 ? 0 : -1;
        int high = c > 0 ? n : n - 1;
        return place < low ? low : place > high ? high : place;
    }
}
