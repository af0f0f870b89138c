/** What the tests share: typing texts, reading results, and counting answers that are not as due. */
final class Checks {
    private final String name;
    private int done = 0;
    private int wrong = 0;

    Checks(String name) {
        this.name = name;
    }

    void due(String what, Object got, Object want) {
        done++;
        if (!want.equals(got)) {
            wrong++;
            System.out.println(name + ": " + what + " answered " + got + ", due is " + want);
        }
    }

    /** What a call throws, by its simple name; "nothing" if it throws nothing. */
    void dueThrown(String what, Runnable call, String want) {
        String got = "nothing";
        try {
            call.run();
        } catch (RuntimeException e) {
            got = e.getClass().getSimpleName();
        }
        due(what + " throws", got, want);
    }

    void end() {
        System.out.println(name + ": " + done + " checks, " + wrong + " wrong");
        if (wrong != 0) {
            System.exit(1);
        }
    }

    static void type(PickDesk desk, String text) {
        for (int i = 0; i < text.length(); i++) {
            desk.letter(text.charAt(i));
        }
    }

    static int load(PickDesk desk, String text) {
        type(desk, text);
        return desk.load();
    }

    static int query(PickDesk desk, String text) {
        type(desk, text);
        return desk.query();
    }

    static PickDesk deskWith(String document) {
        PickDesk desk = new PickDesk();
        if (load(desk, document) < 1) {
            throw new IllegalStateException("the test's document does not load: " + document);
        }
        return desk;
    }

    /** What a query gives of a document, as it is written; with "!1" or "!2" ahead of it for a failure. */
    static String answer(String document, String query) {
        PickDesk desk = deskWith(document);
        int number = query(desk, query);
        if (number < 0) {
            return "error " + number;
        }
        int failure = desk.run(number);
        return (failure == 0 ? "" : "!" + failure) + written(desk);
    }

    static String written(PickDesk desk) {
        StringBuilder out = new StringBuilder();
        for (int i = 0; desk.written(i) != PickDesk.NONE; i++) {
            out.append((char) desk.written(i));
        }
        return out.toString();
    }

    static String repeat(String text, int times) {
        return text.repeat(times);
    }
}
