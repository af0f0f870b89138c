/** Promise 4, query: a check of each sentence that names a boundary, in the document's order. */
public final class Promise4QuerySentencesTest {
    private static final String TWELVE = "a.b.c.d.e.f.g.h.i.j.k.l";
    private static final int BEHIND = TWELVE.length();
    private static final String[] WORDS = {"length", "keys", "values", "sort", "reverse", "sum", "max", "min", "type"};

    public static void main(String[] args) {
        Checks checks = new Checks("promise 4, sentences");
        checkNoSpaces(checks);
        checkStages(checks);
        checkFirsts(checks);
        checkNexts(checks);
        checkBrackets(checks);
        checkSlices(checks);
        checkSides(checks);
        checkSigns(checks);
        checkKeysNumbersTexts(checks);
        checkWordOrKey(checks);
        checkTwelveSteps(checks);
        checkCountAsNone(checks);
        checkCountAsOne(checks);
        checkSideKeys(checks);
        checkErrorsAsAbove(checks);
        checkTooMany(checks);
        checkThirteenthStep(checks);
        checkThirteenthFirstKey(checks);
        checkStepOfNone(checks);
        checkDigitAheadOfThat(checks);
        checkFourthKey(checks);
        checkNoWord(checks);
        checkToldAsSuch(checks);
        checkKeyOfAWord(checks);
        checkNumbersFromNone(checks);
        checkTextIsEmptyThen(checks);
        checkTwelveQueries(checks);
        checks.end();
    }

    private static void dueAll(Checks checks, String... queries) {
        for (String query : queries) {
            checks.dueQuery(query);
        }
    }

    private static void checkNoSpaces(Checks checks) {
        checks.of("READ AS A QUERY (no spaces)");
        String text = "a[?b=='x'][1:2:3]|sort(k)";
        for (int place = 0; place <= text.length(); place++) {
            boolean inText = place == text.indexOf('x') || place == text.indexOf('x') + 1;
            if (!inText) {
                checks.dueQueryError(text.substring(0, place) + " " + text.substring(place), place);
            }
        }
        checks.dueQuery("[?' '==' a b ']");
    }

    private static void checkStages(Checks checks) {
        checks.of("query: stage { | stage }");
        dueAll(checks, "a", "a|b", "@|@|@", "sum()|sum()", "a|sum()|[0]", "@|".repeat(79) + "@");
        checks.dueQueryError("", 0);
        checks.dueQueryError("|", 0);
        checks.dueQueryError("|a", 0);
        checks.dueQueryError("a|", 2);
        checks.dueQueryError("a||b", 2);
        checks.dueQueryError("sum()|", 6);
        checks.dueQueryError("@|".repeat(80), 160);
    }

    private static void checkFirsts(Checks checks) {
        checks.of("stage: word ( [ key ] ) or steps; first: key or @ or brackets");
        dueAll(checks, "a", "@", "[0]", "[*]", "[]", "[:]", "[?a]", "sort()", "sort(a)");
        checks.dueQueryError(".a", 0);
        checks.dueQueryError(".*", 0);
        checks.dueQueryError("*", 0);
        checks.dueQueryError("1", 0);
        checks.dueQueryError("'a'", 0);
        checks.dueQueryError("(", 0);
        checks.dueQueryError("()", 0);
        checks.dueQueryError("]", 0);
        checks.dueQueryError("?", 0);
        checks.dueQueryError("@@", 1);
        checks.dueQueryError("@a", 1);
        checks.dueQueryError("@()", 1);
        checks.dueQueryError("a@", 1);
    }

    private static void checkNexts(Checks checks) {
        checks.of("next: . key or .* or brackets");
        dueAll(checks, "a.b", "a.*", "a[0]", "@.a", "@.*", "@[0]", "[0].a", "[].*", "a.*.b", "a.*[0]", "a[][0].b");
        checks.dueQueryError("a.", 2);
        checks.dueQueryError("a..b", 2);
        checks.dueQueryError("a.[0]", 2);
        checks.dueQueryError("a.@", 2);
        checks.dueQueryError("a.1", 2);
        checks.dueQueryError("a.B", 2);
        checks.dueQueryError("a*", 1);
        checks.dueQueryError("a.*b", 3);
        checks.dueQueryError("a.**", 3);
        checks.dueQueryError("[0]a", 3);
        checks.dueQueryError("[]*", 2);
        checks.dueQueryError("a.sum()", 5);
        checks.dueQueryError("sum().a", 5);
        checks.dueQueryError("sum()[0]", 5);
        checks.dueQueryError("sum()a", 5);
        checks.dueQueryError("sum()()", 5);
    }

    private static void checkBrackets(Checks checks) {
        checks.of("brackets: [ number ] or [*] or []");
        dueAll(checks, "[3]", "[-1]", "[0]", "[-0]", "[999999]", "[-999999]", "[*]", "[]");
        checks.dueQueryError("[", 1);
        checks.dueQueryError("[-", 2);
        checks.dueQueryError("[-]", 2);
        checks.dueQueryError("[3", 2);
        checks.dueQueryError("[3,4]", 2);
        checks.dueQueryError("[*", 2);
        checks.dueQueryError("[**]", 2);
        checks.dueQueryError("[*:]", 2);
        checks.dueQueryError("[]]", 2);
        checks.dueQueryError("[[0]]", 1);
        checks.dueQueryError("[a]", 1);
        checks.dueQueryError("[@]", 1);
        checks.dueQueryError("['a']", 1);
        checks.dueQueryError("[+1]", 1);
    }

    private static void checkSlices(Checks checks) {
        checks.of("[ [number] : [number] [ : [number] ] ]");
        String[] numbers = {"", "0", "3", "-2", "999999", "-999999"};
        String[] steps = {"", ":", ":1", ":-1", ":999999", ":-999999", ":000001"};
        for (String from : numbers) {
            for (String end : numbers) {
                for (String step : steps) {
                    String text = "[" + from + ":" + end + step;
                    checks.dueQuery(text + "]");
                    checks.dueQueryError(text, text.length());
                    checks.dueQueryError(text + "%]", text.length());
                }
                checks.dueQueryError("[" + from + ":" + end + "::]", from.length() + end.length() + 3);
                checks.dueQueryError("[" + from + ":" + end + ":1:]", from.length() + end.length() + 4);
            }
        }
        checks.dueQueryError("[-:]", 2);
        checks.dueQueryError("[:-]", 3);
        checks.dueQueryError("[::-]", 4);
    }

    private static void checkSides(Checks checks) {
        checks.of("side: @ { . key } or key { . key } or number or text");
        dueAll(checks, "[?@]", "[?@.a]", "[?@.a.b.c]", "[?a]", "[?a.b]", "[?a.b.c]", "[?0]", "[?-1]", "[?'']", "[?'x']", "[?n]");
        dueAll(checks, "[?1==@]", "[?'a'==@.a]", "[?@.a==a]", "[?a.b.c==a.b.c]", "[?1==1]", "[?''=='']", "[?sort==length]");
        checks.dueQueryError("[?]", 2);
        checks.dueQueryError("[?", 2);
        checks.dueQueryError("[?*]", 2);
        checks.dueQueryError("[?.a]", 2);
        checks.dueQueryError("[?[0]]", 2);
        checks.dueQueryError("[?a[0]]", 3);
        checks.dueQueryError("[?a.*]", 4);
        checks.dueQueryError("[?a.@]", 4);
        checks.dueQueryError("[?a.]", 4);
        checks.dueQueryError("[?@.]", 4);
        checks.dueQueryError("[?@a]", 3);
        checks.dueQueryError("[?1.a]", 3);
        checks.dueQueryError("[?''.a]", 4);
        checks.dueQueryError("[?a()]", 3);
        checks.dueQueryError("[?a==]", 5);
        checks.dueQueryError("[?a==*]", 5);
    }

    private static void checkSigns(Checks checks) {
        checks.of("sign: one of == != <= >= < >");
        dueAll(checks, "[?a==b]", "[?a!=b]", "[?a<=b]", "[?a>=b]", "[?a<b]", "[?a>b]", "[?a<-1]", "[?a>'b']");
        checks.dueQueryError("[?a=b]", 4);
        checks.dueQueryError("[?a=", 4);
        checks.dueQueryError("[?a!b]", 4);
        checks.dueQueryError("[?a!]", 4);
        checks.dueQueryError("[?!a]", 2);
        checks.dueQueryError("[?a=<b]", 4);
        checks.dueQueryError("[?a<>b]", 4);
        checks.dueQueryError("[?a=!b]", 4);
        checks.dueQueryError("[?a<<b]", 4);
        checks.dueQueryError("[?a===b]", 5);
        checks.dueQueryError("[?a>==b]", 5);
        checks.dueQueryError("[?a<", 4);
        checks.dueQueryError("[?a==b==c]", 6);
        checks.dueQueryError("[?a<b<c]", 5);
        checks.dueQueryError("[?==b]", 2);
    }

    private static void checkKeysNumbersTexts(Checks checks) {
        checks.of("keys, numbers and texts as above");
        dueAll(checks, "abcdefg", "z", "a.tuvwxyz", "[?abcdefg.abcdefg==@.abcdefg]", "sort(abcdefg)");
        dueAll(checks, "[123456]", "[-000000]", "[123456:-123456:123456]", "[?-123456<123456]", "[?'1234567'=='']");
        checks.dueQueryError("`", 0);
        checks.dueQueryError("{", 0);
        checks.dueQueryError("a{", 1);
        checks.dueQueryError("aB", 1);
        checks.dueQueryError("a1", 1);
        checks.dueQueryError("[/]", 1);
        checks.dueQueryError("[;]", 1);
        checks.dueQueryError("[1/]", 2);
        checks.dueQueryError("[--1]", 2);
        checks.dueQueryError("[?'a''b']", 5);
    }

    private static void checkWordOrKey(Checks checks) {
        checks.of("a key ahead of a ( is a word");
        for (String word : WORDS) {
            dueAll(checks, word, word + "()", word + ".a", "a." + word, "[?" + word + "]", word + "|" + word + "()", "sort(" + word + ")");
            checks.dueQueryError(word + "(", word.length() + 1);
            checks.dueQueryError(word + ")", word.length());
            checks.dueQueryError(word + " ()", word.length());
            checks.dueQueryError("@." + word + "()", word.length() + 2);
            checks.dueQueryError("@" + word + "()", 1);
            checks.dueQueryError("[?" + word + "()]", word.length() + 2);
        }
        checks.dueQueryError("sort(a", 6);
        checks.dueQueryError("sort(a.b)", 6);
        checks.dueQueryError("sort(a,b)", 6);
        checks.dueQueryError("sort(1)", 5);
        checks.dueQueryError("sort(@)", 5);
        checks.dueQueryError("sort('a')", 5);
        checks.dueQueryError("sort(()", 5);
    }

    private static void checkTwelveSteps(Checks checks) {
        checks.of("A query has at most 12 steps in all");
        dueAll(checks, TWELVE, "[0]".repeat(12), "[]".repeat(12), "[*]".repeat(12), "[:]".repeat(12), "[?a]".repeat(12));
        dueAll(checks, "@" + ".*".repeat(12), "a|b|c|d|e|f|g|h|i|j|k|l", "[0]|".repeat(11) + "[0]", "a.*[0]|b.*[]|c.*[:]|d[*][?a]");
        checks.dueQueryError("a|b|c|d|e|f|g|h|i|j|k|l|m", 24);
        checks.dueQueryError("a.*[0]|b.*[]|c.*[:]|d[*][?a]|e", 29);
        checks.dueQueryError("a.*[0]|b.*[]|c.*[:]|d[*][?a].e", 28);
        checks.dueQueryError("a.*[0]|b.*[]|c.*[:]|d[*][?a][]", 28);
    }

    private static void checkCountAsNone(Checks checks) {
        checks.of("@, words and keys of sides count as none");
        dueAll(checks, "@." + TWELVE, TWELVE + "|@|@", "@|@|" + TWELVE, TWELVE + "|sum()|sort(a)|type()");
        dueAll(checks, "length()|" + TWELVE + "|length()", "[?a.b.c==a.b.c]".repeat(6) + "|b|c|d|e|f|g", "[?@.a.b.c<@.a.b.c]|" + "[0]".repeat(11));
        checks.dueQueryError("@." + TWELVE + ".m", BEHIND + 2);
        checks.dueQueryError("[?a.b.c==a.b.c]".repeat(6) + "|b|c|d|e|f|g|h", 103);
        checks.dueQueryError("[?@.a.b.c<@.a.b.c]|" + "[0]".repeat(12), 19 + 33);
        checks.dueQueryError(TWELVE + "|@|@.m", BEHIND + 4);
        checks.dueQueryError(TWELVE + "|sum()|m", BEHIND + 7);
    }

    private static void checkCountAsOne(Checks checks) {
        checks.of("a first key and all brackets as one; .* too");
        String[] singles = {"[0]", "[-1]", "[*]", "[]", "[:]", "[1:2:3]", "[?a]", "[?a.b.c==1]", ".*", ".b"};
        for (String single : singles) {
            String eleven = "@" + single.repeat(11);
            checks.dueQuery(eleven + single);
            checks.dueQuery(eleven + "|a");
            checks.dueQueryError(eleven + "|a|b", eleven.length() + 3);
            checks.dueQueryError(eleven + "[0]" + single, eleven.length() + 3);
        }
    }

    private static void checkSideKeys(Checks checks) {
        checks.of("a side at most 3 keys");
        dueAll(checks, "[?a.b.c]", "[?@.a.b.c]", "[?a.b.c<@.a.b.c]", "[?abcdefg.abcdefg.abcdefg]");
        checks.dueQueryError("[?a.b.c.d]", 8);
        checks.dueQueryError("[?@.a.b.c.d]", 10);
        checks.dueQueryError("[?a<a.b.c.d]", 10);
    }

    private static void checkErrorsAsAbove(Checks checks) {
        checks.of("Errors as above: the first character that does not fit, at the end the length");
        String[] whole = {"ab.cd[-12][1:-2:3]|[?@.a.bc<='x y'].*|sort(key)|[::-1]|[]|[*]|sum()", "[?a!=b]|length()|[?'abc'>=12]"};
        for (String query : whole) {
            checks.dueQuery(query);
            for (int length = 0; length < query.length(); length++) {
                String prefix = query.substring(0, length);
                int answer = Checks.query(new PickDesk(), prefix);
                checks.due("query " + prefix, answer == 0 ? -1 - length : answer, -1 - length);
            }
        }
        String text = "ab.cd[-12][1:-2:3]|[?@.a.bc<=12].*|sort(key)|[::-1]|[]|[*]|sum()";
        for (int place = 0; place <= text.length(); place++) {
            checks.dueQueryError(text.substring(0, place) + "%" + text.substring(place), place);
            checks.dueQueryError(text.substring(0, place) + "%%", place);
        }
        checks.dueQueryError("a.%.%", 2);
        checks.dueQueryError("[%][1234567]", 1);
        checks.dueQueryError("[1234567][%]", 7);
        checks.dueQueryError("%|foo()", 0);
        checks.dueQueryError("foo()|%", 0);
    }

    private static void checkTooMany(Checks checks) {
        checks.of("Errors as above: a digit or character or letter too many, its own place");
        checks.dueQueryError("abcdefgh", 7);
        checks.dueQueryError("abcdefghi", 7);
        checks.dueQueryError("a.abcdefgh", 9);
        checks.dueQueryError("@|abcdefgh", 9);
        checks.dueQueryError("[1234567]", 7);
        checks.dueQueryError("[-1234567", 8);
        checks.dueQueryError("[1234567:]", 7);
        checks.dueQueryError("[:1234567]", 8);
        checks.dueQueryError("[::1234567]", 9);
        checks.dueQueryError("[::-1234567]", 10);
        checks.dueQueryError("[?1234567]", 8);
        checks.dueQueryError("[?a<1234567]", 10);
        checks.dueQueryError("[?'12345678']", 10);
        checks.dueQueryError("[?a=='12345678']", 13);
        checks.dueQueryError("[?abcdefgh]", 9);
        checks.dueQueryError("[?@.abcdefgh]", 11);
        checks.dueQueryError("[?a.b.abcdefgh]", 13);
        checks.dueQueryError("sort(abcdefgh)", 12);
    }

    private static void checkThirteenthStep(Checks checks) {
        checks.of("a 13th step ... at their first character ([ or .");
        String[] steps = {".m", ".*", "[0]", "[]", "[*]", "[:]", "[?a]", "[?a.b.c.d]", "[::0]", "[1234567]", ".abcdefgh"};
        for (String step : steps) {
            checks.dueQueryError(TWELVE + step, BEHIND);
            checks.dueQueryError("[]".repeat(12) + step, 24);
            checks.dueQueryError(TWELVE + "|@" + step, BEHIND + 2);
            checks.dueQueryError(TWELVE + step + step, BEHIND);
        }
        checks.dueQueryError(TWELVE + "|[0]", BEHIND + 1);
        checks.dueQueryError(TWELVE + "|sum()|[]", BEHIND + 7);
        String[] noSteps = {".", ".5", "..", ".%", "[", "[%", "[-", "[?"};
        for (String no : noSteps) {
            checks.dueQueryError(TWELVE + no, BEHIND);
        }
        checks.dueQueryError(TWELVE + "]", BEHIND);
        checks.dueQueryError(TWELVE + "%.m", BEHIND);
        checks.dueQueryError("a.%" + TWELVE, 2);
    }

    private static void checkThirteenthFirstKey(Checks checks) {
        checks.of("a 13th step ... at their first character (... or the letter");
        checks.dueQueryError(TWELVE + "|m", BEHIND + 1);
        checks.dueQueryError(TWELVE + "|mnopqrs", BEHIND + 1);
        checks.dueQueryError(TWELVE + "|m.n", BEHIND + 1);
        checks.dueQueryError(TWELVE + "|m%", BEHIND + 1);
        checks.dueQueryError(TWELVE + "|m|foo()", BEHIND + 1);
        checks.dueQueryError(TWELVE + "|sort", BEHIND + 1);
        checks.dueQueryError(TWELVE + "|sort)", BEHIND + 1);
        checks.dueQueryError(TWELVE + "|M", BEHIND + 1);
        checks.dueQueryError(TWELVE + "|", BEHIND + 1);
    }

    private static void checkStepOfNone(Checks checks) {
        checks.of("a step of 0 in a slice (its third number), at ... the number's first character, - too");
        checks.dueQueryError("[::0]", 3);
        checks.dueQueryError("[::-0]", 3);
        checks.dueQueryError("[::00]", 3);
        checks.dueQueryError("[::000000]", 3);
        checks.dueQueryError("[::-000000]", 3);
        checks.dueQueryError("[1:22:0]", 6);
        checks.dueQueryError("a[-1::-0]", 6);
        checks.dueQueryError("[::0", 3);
        checks.dueQueryError("[::-0", 3);
        checks.dueQueryError("[::0%]", 3);
        checks.dueQueryError("[::0:]", 3);
        checks.dueQueryError("[::0]%", 3);
        checks.dueQueryError("[::0][::0]", 3);
        dueAll(checks, "[0:0]", "[0:0:]", "[0:0:1]", "[-0:-0:-1]", "[::01]", "[::-000001]", "[::10]", "[0]", "[-0]");
    }

    private static void checkDigitAheadOfThat(Checks checks) {
        checks.of("a digit too many of it ahead of that");
        checks.dueQueryError("[::0000000]", 9);
        checks.dueQueryError("[::-0000000]", 10);
        checks.dueQueryError("[::0000001]", 9);
        checks.dueQueryError("[1:2:0000000", 11);
        checks.dueQueryError("[::00000000]", 9);
    }

    private static void checkFourthKey(Checks checks) {
        checks.of("a fourth key of a side, at what stands behind its .");
        checks.dueQueryError("[?a.b.c.d]", 8);
        checks.dueQueryError("[?a.b.c.d.e]", 8);
        checks.dueQueryError("[?a.b.c.abcdefgh]", 8);
        checks.dueQueryError("[?a.b.c.]", 8);
        checks.dueQueryError("[?a.b.c.", 8);
        checks.dueQueryError("[?a.b.c..", 8);
        checks.dueQueryError("[?a.b.c.%]", 8);
        checks.dueQueryError("[?@.a.b.c.d==1]", 10);
        checks.dueQueryError("[?@.a.b.c.", 10);
        checks.dueQueryError("[?1!=@.a.b.c.d]", 13);
        checks.dueQueryError("[?a.b.c==a.b.c.d]", 15);
        checks.dueQueryError("[?a.b.c.d==a.b.c.d]", 8);
    }

    private static void checkNoWord(Checks checks) {
        checks.of("a word that is none of the nine, at its first letter");
        String[] none = {"foo", "a", "abcdefg", "lengt", "lengths", "sor", "sorts", "summ", "su", "maxi", "types", "value", "key", "revers"};
        for (String word : none) {
            checks.dueQueryError(word + "()", 0);
            checks.dueQueryError(word + "(", 0);
            checks.dueQueryError(word + "(%", 0);
            checks.dueQueryError(word + "(a)", 0);
            checks.dueQueryError(word + "(abcdefgh)", 0);
            checks.dueQueryError("a|" + word + "()", 2);
            checks.dueQueryError("sum()|" + word + "(k)|sum()", 6);
            checks.dueQuery(word);
        }
    }

    private static void checkToldAsSuch(Checks checks) {
        checks.of("(a first key of a stage that has a letter too many, or is a word, is told as such, not as a 13th step)");
        checks.dueQueryError(TWELVE + "|mnopqrst", BEHIND + 8);
        checks.dueQueryError(TWELVE + "|mnopqrstu", BEHIND + 8);
        checks.dueQueryError(TWELVE + "|mnopqrst(", BEHIND + 8);
        checks.dueQueryError(TWELVE + "|mnopqrst.a", BEHIND + 8);
        checks.dueQueryError(TWELVE + "|foo()", BEHIND + 1);
        checks.dueQueryError(TWELVE + "|sum(a)", BEHIND + 5);
        checks.dueQueryError(TWELVE + "|sum(", BEHIND + 5);
        checks.dueQueryError(TWELVE + "|sum()%", BEHIND + 6);
        checks.dueQueryError(TWELVE + "|sort(1)", BEHIND + 6);
        checks.dueQueryError(TWELVE + "|sort(abcdefgh)", BEHIND + 13);
        dueAll(checks, TWELVE + "|sum()", TWELVE + "|sort(abcdefg)");
    }

    private static void checkKeyOfAWord(Checks checks) {
        checks.of("a key in the brackets of a word other than sort, at its first letter (whatever else is wrong with it)");
        for (String word : WORDS) {
            int behind = word.length() + 1;
            if (!word.equals("sort")) {
                checks.dueQueryError(word + "(a)", behind);
                checks.dueQueryError(word + "(abcdefg)", behind);
                checks.dueQueryError(word + "(abcdefgh)", behind);
                checks.dueQueryError(word + "(a", behind);
                checks.dueQueryError(word + "(a%)", behind);
                checks.dueQueryError("a|" + word + "(sort)", behind + 2);
            }
            checks.dueQueryError(word + "(A)", behind);
            checks.dueQueryError(word + "( )", behind);
        }
        dueAll(checks, "sort(a)", "sort(abcdefg)", "sort(sort)");
    }

    private static void checkNumbersFromNone(Checks checks) {
        checks.of("Answers its number, from 0, or the error.");
        PickDesk desk = Checks.deskWith("{a:10,b:11,c:12,d:13,e:14,f:15,g:16,h:17,i:18,j:19,k:20,l:21}");
        for (int i = 0; i < 12; i++) {
            checks.due("an error between", Checks.query(desk, "a."), -3);
            checks.due("an empty text between", desk.query(), -1);
            checks.due("query number", Checks.query(desk, "" + (char) ('a' + i)), i);
            checks.due("queries", desk.about(1), i + 1);
        }
        for (int i = 11; i >= 0; i--) {
            checks.due("what query " + i + " gives", Checks.answer(desk, i), "" + (10 + i));
        }
    }

    private static void checkTextIsEmptyThen(Checks checks) {
        checks.of("The text is read as a query, and empty then");
        String[] texts = {"a", "", "%", "a.", "[::0]", "foo()", TWELVE + ".m", "[?a.b.c.d]", "@|".repeat(80), "a".repeat(160)};
        for (String text : texts) {
            PickDesk desk = Checks.deskWith("[5]");
            Checks.query(desk, text);
            checks.due("text length behind query " + text, desk.about(0), 0);
            int queries = desk.about(1);
            checks.due("the next query", Checks.query(desk, TWELVE), queries);
            checks.due("query of nothing", desk.query(), -1);
            checks.due("the document's values", desk.about(3), 2);
            checks.due("the result", Checks.written(desk), "n");
        }
    }

    private static void checkTwelveQueries(Checks checks) {
        checks.of("IllegalStateException: there are 12 queries (whatever the text is); it stays when this throws");
        PickDesk desk = Checks.deskWith("{a:1}");
        for (int i = 0; i < 12; i++) {
            checks.due("query number", Checks.query(desk, "a"), i);
        }
        String[] texts = {"", "a", "%", "[7,8]", "a".repeat(160)};
        int[] loads = {-1, -1, -1, 3, -1};
        for (int i = 0; i < texts.length; i++) {
            Checks.type(desk, texts[i]);
            checks.dueThrown("a 13th query " + texts[i], desk::query, "IllegalStateException");
            checks.dueThrown("a 13th query again", desk::query, "IllegalStateException");
            checks.due("the text's length", desk.about(0), texts[i].length());
            checks.due("queries", desk.about(1), 12);
            checks.due("the text that stayed, read as a value", desk.load(), loads[i]);
        }
        Checks.load(desk, "{a:3}");
        checks.due("the last query", Checks.answer(desk, 11), "3");
    }
}
