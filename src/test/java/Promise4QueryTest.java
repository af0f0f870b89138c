/** Promise 4: query. */
public final class Promise4QueryTest {
    private static final String[] QUERIES = {
        "a", "@", "abcdefg", "[3]", "[-1]", "[000001]", "[-0]", "[*]", "[]", "[1:]", "[:]", "[:2]", "[::]", "[::2]", "[1:5:-1]",
        "[1:2:]", "[:2:]", "[1::]", "[::-1]", "[0:0:1]", "[::000001]", "[?a]", "[?@]", "[?@.a<3]", "[?a.b.c]", "[?@.a.b.c]",
        "[?1]", "[?-1]", "[?'x']", "[?'']", "[?'a b'=='] ']", "[?a==b]", "[?a!=b]", "[?a<=b]", "[?a>=b]", "[?a<b]", "[?a>b]",
        "[?1<2]", "[?a.b.c==@.a.b.c]", "a.b", "a.*", "a.*.b", "a[0]", "a[*].b[]", "@.a", "@.*", "@[0]", "[0].a", "[][]",
        "length()", "keys()", "values()", "sort()", "sort(k)", "sort(abcdefg)", "reverse()", "sum()", "max()", "min()", "type()",
        "length", "sort", "a|b", "@|@|@", "a|length()|[0]", "sum()|sum()", "sort.length", "[?sort==length]",
        "a.b.c.d.e.f.g.h.i.j.k.l", "@.a.b.c.d.e.f.g.h.i.j.k.l", "a|b|c|d|e|f|g|h|i|j|k|l", "a|b|c|d|e|f|g|h|i|j|k|l|@",
        "[0][0][0][0][0][0][0][0][0][0][0][0]", "[][][][][][][][][][][][]", "@.*.*.*.*.*.*.*.*.*.*.*.*",
        "a.b.c.d.e.f.g.h.i.j.k.l|sort(a)|sum()", "a.b.c.d.e.f.g.h.i.j.k[?a.b.c==a.b.c]|@|@",
    };

    private static final Object[][] ERRORS = {
        // a text, and the place of what does not fit
        {"", 0}, {" a", 0}, {"a ", 1}, {"1", 0}, {"'a'", 0}, {"A", 0}, {".a", 0}, {".*", 0}, {"*", 0}, {"]", 0}, {"|", 0},
        {"a|", 2}, {"a||b", 2}, {"a| b", 2}, {"|a", 0}, {"@a", 1}, {"@@", 1}, {"@length()", 1}, {"a@", 1}, {"aB", 1}, {"a1", 1},
        {"a.", 2}, {"a..b", 2}, {"a.1", 2}, {"a.[0]", 2}, {"a.@", 2}, {"a.*b", 3}, {"a.**", 3}, {"a.b c", 3},
        {"abcdefgh", 7}, {"abcdefgh()", 7}, {"a.abcdefgh", 9}, {"a.abcdefgh(", 9}, {"lengths()", 0}, {"reverses()", 7},
        {"[", 1}, {"[ 0]", 1}, {"[a]", 1}, {"[@]", 1}, {"[-]", 2}, {"[--1]", 2}, {"[1", 2}, {"[1 ]", 2}, {"[1a]", 2},
        {"[1234567]", 7}, {"[-1234567]", 8}, {"[*", 2}, {"[**]", 2}, {"[*]]", 3}, {"[]a", 2}, {"[0]a", 3}, {"['a']", 1},
        {"[:", 2}, {"[:a]", 2}, {"[1:", 3}, {"[1:-]", 4}, {"[1:2", 4}, {"[1:2 ]", 4}, {"[1:2:3:4]", 6}, {"[:::]", 3},
        {"[1:1234567]", 9}, {"[::1234567]", 9}, {"[::a]", 3}, {"[::-]", 4}, {"[::-a]", 4}, {"[::1", 4}, {"[::1a]", 4},
        {"[1::0]", 4}, {"[::0]", 3}, {"[::-0]", 3}, {"[::000000]", 3}, {"[::0000000]", 9}, {"[::-0000000]", 10}, {"[::0", 3},
        {"[::0a]", 3}, {"[::00:]", 3}, {"[0:0:0]", 5}, {"a[1:2:0]|", 6},
        {"[?", 2}, {"[?]", 2}, {"[?*]", 2}, {"[? a]", 2}, {"[?a ]", 3}, {"[?[0]]", 2}, {"[?a[0]]", 3}, {"[?a.]", 4}, {"[?a.*]", 4},
        {"[?a.b.c.d]", 8}, {"[?@.a.b.c.d]", 10}, {"[?a.b.c.]", 8}, {"[?a.b.c.", 8}, {"[?a.b.c.abcdefgh]", 8}, {"[?1<a.b.c.d]", 10},
        {"[?a=1]", 4}, {"[?a=", 4}, {"[?a!1]", 4}, {"[?a!", 4}, {"[?a!]", 4}, {"[?a<]", 4}, {"[?a<=]", 5}, {"[?a==]", 5},
        {"[?a===1]", 5}, {"[?a=<1]", 4}, {"[?a<>1]", 4}, {"[?a>==1]", 5}, {"[?a==1", 6}, {"[?a==1==1]", 6}, {"[?a", 3},
        {"[?a==n.]", 7}, {"[?@a]", 3}, {"[?@@]", 3}, {"[?1.a]", 3}, {"[?'a'.a]", 5}, {"[?'a]", 5}, {"[?'12345678']", 10},
        {"[?1234567]", 8}, {"[?-]", 3}, {"[?abcdefgh]", 9}, {"[?a.abcdefgh]", 11}, {"[?a()]", 3}, {"[?length(a)]", 8}, {"[?!a]", 2},
        {"foo()", 0}, {"foo(", 0}, {"foo(%", 0}, {"a|foo()", 2}, {"a|foo(a)", 2}, {"sum(", 4}, {"sum(a)", 4},
        {"sum(abcdefghij", 4}, {"sum(A)", 4}, {"length(@)", 7}, {"keys(a)", 5}, {"type(1)", 5}, {"sum ()", 3}, {"sum( )", 4},
        {"sort(", 5}, {"sort(a", 6}, {"sort(1)", 5}, {"sort(@)", 5}, {"sort(a.b)", 6}, {"sort(a,b)", 6}, {"sort(abcdefgh)", 12},
        {"sort( a)", 5}, {"sum())", 5}, {"sum()[0]", 5}, {"sum().a", 5}, {"sum()a", 5}, {"sum()|", 6}, {"()", 0}, {"a.sum()", 5},
        {"a(b)", 0}, {"@()", 1},
        {"a.b.c.d.e.f.g.h.i.j.k.l.m", 23}, {"a.b.c.d.e.f.g.h.i.j.k.l.", 23}, {"a.b.c.d.e.f.g.h.i.j.k.l.*", 23},
        {"a.b.c.d.e.f.g.h.i.j.k.l.5", 23}, {"a.b.c.d.e.f.g.h.i.j.k.l[0]", 23}, {"a.b.c.d.e.f.g.h.i.j.k.l[", 23},
        {"a.b.c.d.e.f.g.h.i.j.k.l[::0]", 23}, {"a.b.c.d.e.f.g.h.i.j.k.l]", 23}, {"@.a.b.c.d.e.f.g.h.i.j.k.l.m", 25},
        {"a.b.c.d.e.f.g.h.i.j.k.l|m", 24}, {"a.b.c.d.e.f.g.h.i.j.k.l|mnopqrs", 24}, {"a.b.c.d.e.f.g.h.i.j.k.l|mnopqrst", 31},
        {"a.b.c.d.e.f.g.h.i.j.k.l|mnopqrst(", 31}, {"a.b.c.d.e.f.g.h.i.j.k.l|foo()", 24}, {"a.b.c.d.e.f.g.h.i.j.k.l|sum(a)", 28},
        {"a.b.c.d.e.f.g.h.i.j.k.l|sort(1)", 29}, {"a.b.c.d.e.f.g.h.i.j.k.l|sort", 24}, {"a.b.c.d.e.f.g.h.i.j.k.l|m%", 24},
        {"a.b.c.d.e.f.g.h.i.j.k.l|[0]", 24}, {"a.b.c.d.e.f.g.h.i.j.k.l|@[]", 25}, {"[][][][][][][][][][][][][]", 24},
        {"a|b|c|d|e|f|g|h|i|j|k|l|m", 24}, {"@.*.*.*.*.*.*.*.*.*.*.*.*.*", 25},
        {"a[?a.b.c==a.b.c][?a.b.c==a.b.c].b.c.d.e.f.g.h.i.j.k", 49},
    };

    public static void main(String[] args) {
        Checks checks = new Checks("promise 4");
        for (String text : QUERIES) {
            PickDesk desk = new PickDesk();
            checks.due("query " + text, Checks.query(desk, text), 0);
            checks.due("queries", desk.about(1), 1);
            checks.due("text length after " + text, desk.about(0), 0);
        }
        for (Object[] row : ERRORS) {
            PickDesk desk = new PickDesk();
            checks.due("query " + row[0], Checks.query(desk, (String) row[0]), -1 - (Integer) row[1]);
            checks.due("queries after " + row[0], desk.about(1), 0);
            checks.due("text length after an error", desk.about(0), 0);
            checks.due("what is read next", Checks.query(desk, "a.b.c.d.e.f.g.h.i.j.k.l"), 0);
        }
        checkLongQueries(checks);
        checkTwelve(checks);
        checks.end();
    }

    private static void checkLongQueries(Checks checks) {
        checks.due("80 stages", Checks.query(new PickDesk(), "@|".repeat(79) + "@"), 0);
        checks.due("160 letters", Checks.query(new PickDesk(), "@|".repeat(80)), -161);
        checks.due("26 words", Checks.query(new PickDesk(), "sum()|".repeat(26) + "@"), 0);
    }

    private static void checkTwelve(Checks checks) {
        PickDesk desk = Checks.deskWith("{a:1}");
        for (int i = 0; i < 12; i++) {
            checks.due("an error between", Checks.query(desk, "a."), -3);
            checks.due("query number", Checks.query(desk, "a"), i);
        }
        checks.dueThrown("a query of an empty text", desk::query, "IllegalStateException");
        Checks.type(desk, "a..");
        checks.dueThrown("a 13th query", desk::query, "IllegalStateException");
        checks.due("the text stays", desk.about(0), 3);
        checks.due("queries", desk.about(1), 12);
        checks.due("the text that stayed", desk.load(), -1);
        checks.due("the last query", desk.run(11), 0);
        checks.due("its answer", Checks.written(desk), "1");
    }
}
