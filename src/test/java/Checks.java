/** What the tests share: typing texts, reading results, and counting answers that are not as due. */
final class Checks {
    private final String name;
    private String sentence = "";
    private int sentences = 0;
    private int doneBefore = 0;
    private int done = 0;
    private int wrong = 0;

    /** The name has the number of the promise, so that what is printed tells which one is broken. */
    Checks(String name) {
        this.name = name;
    }

    /** The checks from here on are of this sentence of the document. */
    void of(String sentence) {
        endSentence();
        this.sentence = sentence;
        sentences++;
        doneBefore = done;
    }

    /** A sentence without a check would look tested and not be. */
    private void endSentence() {
        if (!sentence.isEmpty() && done == doneBefore) {
            wrong++;
            System.out.println(name + ": nothing was checked of '" + sentence + "'");
        }
    }

    void due(String what, Object got, Object want) {
        done++;
        if (!want.equals(got)) {
            wrong++;
            String where = sentence.isEmpty() ? "" : " (" + sentence + ")";
            System.out.println(name + where + ": " + what + " answered " + got + ", due is " + want);
        }
    }

    /** What a call throws, by its simple name; "nothing" if it throws nothing. */
    void dueThrown(String what, Runnable call, String want) {
        String got = "nothing";
        try {
            call.run();
        } catch (RuntimeException e) {
            got = e.getClass().getSimpleName();
        }
        due(what + " throws", got, want);
    }

    /** A text that is read as a value, and how it is written then. */
    void dueValue(String text, String written) {
        PickDesk desk = new PickDesk();
        due("load " + text + " is above 0", load(desk, text) > 0, true);
        query(desk, "@");
        desk.run(0);
        due("load " + text + ", written", written(desk), written);
    }

    void dueValueError(String text, int place) {
        due("load " + text, load(new PickDesk(), text), -1 - place);
    }

    void dueQuery(String text) {
        due("query " + text, query(new PickDesk(), text), 0);
    }

    void dueQueryError(String text, int place) {
        due("query " + text, query(new PickDesk(), text), -1 - place);
    }

    void dueAnswer(String document, String query, String want) {
        due(query + " of " + document, answer(document, query), want);
    }

    void end() {
        endSentence();
        String told = sentences == 0 ? "" : " of " + sentences + " sentences";
        System.out.println(name + ": " + done + " checks" + told + ", " + wrong + " wrong");
        if (wrong != 0) {
            System.exit(1);
        }
    }

    static void type(PickDesk desk, String text) {
        for (int i = 0; i < text.length(); i++) {
            desk.letter(text.charAt(i));
        }
    }

    static int load(PickDesk desk, String text) {
        type(desk, text);
        return desk.load();
    }

    static int query(PickDesk desk, String text) {
        type(desk, text);
        return desk.query();
    }

    static PickDesk deskWith(String document) {
        PickDesk desk = new PickDesk();
        if (load(desk, document) < 1) {
            throw new IllegalStateException("the test's document does not load: " + document);
        }
        return desk;
    }

    /** What a query gives of a document, as it is written; with "!1" or "!2" ahead of it for a failure. */
    static String answer(String document, String query) {
        PickDesk desk = deskWith(document);
        int number = query(desk, query);
        return number < 0 ? "error " + number : answer(desk, number);
    }

    static String answer(PickDesk desk, int number) {
        int failure = desk.run(number);
        return (failure == 0 ? "" : "!" + failure) + written(desk);
    }

    static String written(PickDesk desk) {
        StringBuilder out = new StringBuilder();
        for (int i = 0; desk.written(i) != PickDesk.NONE; i++) {
            out.append((char) desk.written(i));
        }
        return out.toString();
    }
}
