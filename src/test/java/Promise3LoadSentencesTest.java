/** Promise 3, load: a check of each sentence that names a boundary, in the document's order. */
public final class Promise3LoadSentencesTest {
    private static final String FULL = "[" + "n,".repeat(78) + "11]";

    public static void main(String[] args) {
        Checks checks = new Checks("promise 3, sentences");
        checkKeys(checks);
        checkFullText(checks);
        checkJustOne(checks);
        checkNumbers(checks);
        checkZeros(checks);
        checkTexts(checks);
        checkAround(checks);
        checkKeyAgain(checks);
        checkFirstWrong(checks);
        checkFirstOfTwo(checks);
        checkAtTheEnd(checks);
        checkAroundError(checks);
        checkTooMany(checks);
        checkTextIsEmptyThen(checks);
        checkEmptyText(checks);
        checkCounts(checks);
        checkLatestAlone(checks);
        checkDocumentStays(checks);
        checks.end();
    }

    private static void checkKeys(Checks checks) {
        checks.of("KEYS (1 to 7 letters a .. z) with values, in an order");
        checks.dueValue("{a:1}", "{a:1}");
        checks.dueValue("{z:1}", "{z:1}");
        checks.dueValue("{abcdefg:1,tuvwxyz:2}", "{abcdefg:1,tuvwxyz:2}");
        checks.dueValue("{b:1,a:2,ab:3,aa:4}", "{b:1,a:2,ab:3,aa:4}");
        checks.dueValueError("{:1}", 1);
        checks.dueValueError("{a:1,:1}", 5);
        checks.dueValueError("{abcdefgh:1}", 8);
        checks.dueValueError("{`:1}", 1);
        checks.dueValueError("{{:1}", 1);
        checks.dueValueError("{A:1}", 1);
        checks.dueValueError("{Z:1}", 1);
        checks.dueValueError("{a0:1}", 2);
        checks.dueValueError("{a_:1}", 2);
        checks.dueValueError("{a{:1}", 2);
        checks.dueValueError("{a`:1}", 2);
    }

    private static void checkFullText(Checks checks) {
        checks.of("THE TEXT at hand has at most 160 characters");
        checks.due("a text of 160", FULL.length(), 160);
        checks.dueValue(FULL, FULL);
        checks.due("load a text of 160", Checks.load(new PickDesk(), FULL), 80);
        checks.dueValueError("[" + "1,".repeat(79) + "1", 160);
        checks.dueValueError("[" + "1,".repeat(79) + "]", 159);
        checks.dueValueError("[" + "n,".repeat(78) + "1]]", 159);
    }

    private static void checkJustOne(Checks checks) {
        checks.of("it must be just such a written one");
        checks.dueValueError("nn", 1);
        checks.dueValueError("n ", 1);
        checks.dueValueError(" n", 0);
        checks.dueValueError("1,2", 1);
        checks.dueValueError("[]]", 2);
        checks.dueValueError("{}{}", 2);
        checks.dueValueError("''''", 2);
        checks.dueValueError("[1, 2]", 3);
        checks.dueValueError("{a: 1}", 3);
        checks.dueValueError("[1,]", 3);
        checks.dueValueError("[,]", 1);
        checks.dueValueError("{a:1,}", 5);
        checks.dueValueError("{,}", 1);
        checks.dueValueError("[1}", 2);
        checks.dueValueError("{a:1]", 4);
        checks.dueValueError("[a:1]", 1);
        checks.dueValueError("{1}", 1);
        checks.dueValueError("+1", 0);
        checks.dueValueError("N", 0);
        checks.dueValueError("a", 0);
    }

    private static void checkNumbers(Checks checks) {
        checks.of("a number has 1 to 6 digits");
        checks.dueValue("0", "0");
        checks.dueValue("9", "9");
        checks.dueValue("-9", "-9");
        checks.dueValue("123456", "123456");
        checks.dueValue("999999", "999999");
        checks.dueValue("-999999", "-999999");
        checks.dueValueError("-", 1);
        checks.dueValueError("[-]", 2);
        checks.dueValueError("[-,1]", 2);
        checks.dueValueError("--1", 1);
        checks.dueValueError("1234567", 6);
        checks.dueValueError("-1234567", 7);
        checks.dueValueError("1/", 1);
        checks.dueValueError("1:", 1);
        checks.dueValueError("/", 0);
        checks.dueValueError(":", 0);
    }

    private static void checkZeros(Checks checks) {
        checks.of("(more leading 0 or less, as it likes; -0 is 0)");
        checks.dueValue("000000", "0");
        checks.dueValue("00", "0");
        checks.dueValue("000001", "1");
        checks.dueValue("-000001", "-1");
        checks.dueValue("010", "10");
        checks.dueValue("-0", "0");
        checks.dueValue("-000000", "0");
        checks.dueValueError("0000000", 6);
        checks.dueValueError("-0000000", 7);
        checks.dueValueError("0000001", 6);
    }

    private static void checkTexts(Checks checks) {
        checks.of("a text at most 7 characters other than '");
        checks.dueValue("''", "''");
        checks.dueValue("' '", "' '");
        checks.dueValue("'~'", "'~'");
        checks.dueValue("'1234567'", "'1234567'");
        checks.dueValue("'       '", "'       '");
        checks.dueValue("'[{\"}],:'", "'[{\"}],:'");
        checks.dueValueError("'12345678'", 8);
        checks.dueValueError("'''", 2);
        checks.dueValueError("'a'b'", 3);
        checks.dueValueError("'1234567''", 9);
    }

    private static void checkAround(Checks checks) {
        checks.of("a list or object is in at most 3 others");
        String[] deep = {"[[[[]]]]", "[[[{}]]]", "{a:{a:{a:{}}}}", "{a:{a:{a:[]}}}", "[{a:[{b:1}]}]", "[[[[1,2],[]],[[]]],[[{}]]]"};
        for (String text : deep) {
            checks.dueValue(text, text);
        }
        checks.dueValue("[[[['a',-1,n,f,t]]]]", "[[[['a',-1,n,f,t]]]]");
        checks.dueValueError("[[[[[]]]]]", 4);
        checks.dueValueError("{a:{a:{a:{a:{}}}}}", 12);
    }

    private static void checkKeyAgain(Checks checks) {
        checks.of("A key that comes again takes the new value, and keeps its first place.");
        checks.dueValue("{a:1,a:2}", "{a:2}");
        checks.dueValue("{a:1,b:2,a:3}", "{a:3,b:2}");
        checks.dueValue("{a:1,b:2,c:3,b:4}", "{a:1,b:4,c:3}");
        checks.dueValue("{a:1,b:2,b:3,a:4,b:5}", "{a:4,b:5}");
        checks.dueValue("{a:[1],b:2,a:n}", "{a:n,b:2}");
        checks.dueValue("{a:n,b:2,a:{a:1,a:2}}", "{a:{a:2},b:2}");
        checks.dueValue("{abcdefg:1,abcdef:2,abcdefg:3}", "{abcdefg:3,abcdef:2}");
        checks.dueValue("[{a:1},{a:2}]", "[{a:1},{a:2}]");
        checks.dueValueError("{a:1,a:}", 7);
    }

    private static void checkFirstWrong(Checks checks) {
        checks.of("An ERROR is -1 less the place of the first character that does not fit (from 0");
        String text = "[1,{ab:'x',c:[]},n,-12]";
        for (int place = 0; place < text.length(); place++) {
            boolean inText = place == text.indexOf("x") || place == text.indexOf("x") + 1;
            if (!inText) {
                checks.dueValueError(text.substring(0, place) + "%" + text.substring(place), place);
                checks.dueValueError(text.substring(0, place) + "%", place);
            }
        }
        checks.dueValueError(text + "%", text.length());
    }

    private static void checkFirstOfTwo(Checks checks) {
        checks.of("the first character that does not fit, of two");
        checks.dueValueError("[%,%]", 1);
        checks.dueValueError("[1,%,1234567]", 3);
        checks.dueValueError("[1234567,%]", 7);
        checks.dueValueError("['12345678',%]", 9);
        checks.dueValueError("{abcdefgh:%}", 8);
        checks.dueValueError("{A:1234567}", 1);
        checks.dueValueError("[[[[[%", 4);
        checks.dueValueError("[[[%[[", 3);
    }

    private static void checkAtTheEnd(Checks checks) {
        checks.of("at the end: the length");
        String[] texts = {"[1,{ab:'x',c:[[]]},n,-12]", "{a:{b:{c:{d:'1234567'}}},b:123456,abcdefg:[t,f]}"};
        for (String text : texts) {
            for (int length = 0; length < text.length(); length++) {
                checks.dueValueError(text.substring(0, length), length);
            }
        }
        checks.dueValueError("-", 1);
        checks.dueValueError("'", 1);
        checks.dueValueError("'1234567", 8);
        checks.dueValueError("{abcdefg", 8);
    }

    private static void checkAroundError(Checks checks) {
        checks.of("a fourth other one around: that of its [ or {");
        checks.dueValueError("[[[[[", 4);
        checks.dueValueError("[[[[{", 4);
        checks.dueValueError("[[[[1,[", 6);
        checks.dueValueError("[[[[],[[", 7);
        checks.dueValueError("[[[],[[]],[[[]]]]]", 12);
        checks.dueValueError("{a:[{a:[{", 8);
        checks.dueValueError("[{a:{a:[[]]}}]", 8);
        checks.dueValueError("[[[{a:[]}]]]", 6);
        checks.dueValueError("[[[{a:{b", 6);
    }

    private static void checkTooMany(Checks checks) {
        checks.of("a digit or character or letter too many: its own place");
        checks.dueValueError("[1234567]", 7);
        checks.dueValueError("[12345678]", 7);
        checks.dueValueError("[-1234567", 8);
        checks.dueValueError("{a:1234567}", 9);
        checks.dueValueError("['12345678']", 9);
        checks.dueValueError("['123456789']", 9);
        checks.dueValueError("'12345678", 8);
        checks.dueValueError("'1234567 '", 8);
        checks.dueValueError("'1234567]'", 8);
        checks.dueValueError("{abcdefgh:1}", 8);
        checks.dueValueError("{abcdefghi:1}", 8);
        checks.dueValueError("{abcdefgh", 8);
        checks.dueValueError("{a:1,abcdefgh:1}", 12);
        checks.dueValueError("{abcdefgH:1}", 8);
    }

    private static void checkTextIsEmptyThen(Checks checks) {
        checks.of("The text is read as a value, and empty then (also with an error");
        String[] texts = {"n", "[1,2]", "", "[", "x", "[1234567]", "[[[[[", "nn", FULL, "a".repeat(160)};
        for (String text : texts) {
            PickDesk desk = new PickDesk();
            Checks.load(desk, text);
            checks.due("text length behind load of " + text, desk.about(0), 0);
            checks.due("the next letter", desk.letter('4'), 1);
            checks.due("the next load", desk.load(), 1);
            checks.due("the next document", desk.about(2), 3);
            checks.due("load of nothing", desk.load(), -1);
        }
    }

    private static void checkEmptyText(Checks checks) {
        checks.of("of an empty text it is -1");
        PickDesk desk = Checks.deskWith("[1]");
        checks.due("load", desk.load(), -1);
        checks.due("load again", desk.load(), -1);
        checks.due("the document's kind", desk.about(2), 5);
        checks.due("the document's values", desk.about(3), 2);
    }

    private static void checkCounts(Checks checks) {
        checks.of("Answers how many values it has (itself, and all in it");
        Object[][] rows = {
            {"n", 1}, {"0", 1}, {"'abc'", 1}, {"[]", 1}, {"{}", 1}, {"[n]", 2}, {"[[]]", 2}, {"{a:{}}", 2}, {"[[[[]]]]", 4},
            {"[[[[1]]]]", 5}, {"{a:{a:{a:{a:n}}}}", 5}, {"[1,{a:'x',b:[]},n]", 6}, {"[[1,2],[3,4]]", 7}, {FULL, 80},
        };
        for (Object[] row : rows) {
            PickDesk desk = new PickDesk();
            checks.due("load " + row[0], Checks.load(desk, (String) row[0]), row[1]);
            checks.due("about 3", desk.about(3), row[1]);
        }
    }

    private static void checkLatestAlone(Checks checks) {
        checks.of("of a key that came again the latest alone");
        Object[][] rows = {
            {"{a:1,a:2}", 2}, {"{a:[1,2,3],a:4}", 2}, {"{a:4,a:[1,2,3]}", 5}, {"{a:[1,2],b:3,a:[4]}", 4}, {"{a:1,a:2,a:3,a:4}", 2},
            {"{a:{b:1,b:2},b:3}", 4},
        };
        for (Object[] row : rows) {
            PickDesk desk = new PickDesk();
            checks.due("load " + row[0], Checks.load(desk, (String) row[0]), row[1]);
            checks.due("about 3", desk.about(3), row[1]);
        }
    }

    private static void checkDocumentStays(Checks checks) {
        checks.of("and it is the document; or the error, and the document stays");
        PickDesk desk = new PickDesk();
        checks.due("an error of a new object", Checks.load(desk, "[1"), -3);
        checks.due("kind of the document that stays", desk.about(2), 0);
        Checks.query(desk, "@");
        Checks.load(desk, "{a:[1,2]}");
        String[] wrong = {"", "[3,4", "[3,4]5", "{a:3,b:}", "[[[[[]]]]]", "1234567"};
        for (String text : wrong) {
            Checks.load(desk, text);
            checks.due("values behind the error of " + text, desk.about(3), 4);
            checks.due("the document behind the error of " + text, Checks.answer(desk, 0), "{a:[1,2]}");
        }
        Checks.load(desk, "7");
        checks.due("the next document", Checks.answer(desk, 0), "7");
    }
}
