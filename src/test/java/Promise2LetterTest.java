/** Promise 2: letter. */
public final class Promise2LetterTest {
    private static final int[] NO_LETTERS = {31, 127, 0, -1, 10, 39 + 256, 65536 + 97, Integer.MIN_VALUE, Integer.MAX_VALUE};

    public static void main(String[] args) {
        Checks checks = new Checks("promise 2");
        checkLetters(checks);
        checkNoLetters(checks);
        checkFull(checks);
        checkFullAndNoLetter(checks);
        checkAfterFull(checks);
        checks.end();
    }

    private static PickDesk full() {
        PickDesk desk = new PickDesk();
        Checks.type(desk, "[" + "n,".repeat(78) + "11]");
        return desk;
    }

    private static void checkLetters(Checks checks) {
        checks.of("A character comes to the text; answers how long it is.");
        PickDesk desk = new PickDesk();
        for (int c = 32; c <= 126; c++) {
            checks.due("letter " + c, desk.letter(c), c - 31);
            checks.due("text length", desk.about(0), c - 31);
        }
        for (int c = 32; c <= 126; c++) {
            String text = "'" + (char) c + "'";
            if (c != '\'') {
                checks.dueAnswer(text, "@", text);
            }
        }
    }

    private static void checkNoLetters(Checks checks) {
        checks.of("IllegalArgumentException: c is not 32 .. 126");
        PickDesk desk = new PickDesk();
        for (int c : NO_LETTERS) {
            checks.dueThrown("letter " + c + " of an empty text", () -> desk.letter(c), "IllegalArgumentException");
        }
        checks.due("length after no letters", desk.about(0), 0);
        desk.letter('[');
        desk.letter('1');
        for (int c : NO_LETTERS) {
            checks.dueThrown("letter " + c, () -> desk.letter(c), "IllegalArgumentException");
        }
        checks.due("length after no letters", desk.about(0), 2);
        checks.due("the letter behind them", desk.letter(']'), 3);
        checks.due("the text without them", desk.load(), 2);
    }

    private static void checkFull(Checks checks) {
        checks.of("IllegalStateException: it has 160.");
        PickDesk desk = new PickDesk();
        for (int n = 1; n <= 160; n++) {
            checks.due("letter number " + n, desk.letter(n % 2 == 0 ? ' ' : '~'), n);
        }
        int[] letters = {32, 'a', 126};
        for (int c : letters) {
            checks.dueThrown("letter number 161", () -> desk.letter(c), "IllegalStateException");
            checks.due("length of a full text", desk.about(0), 160);
        }
        PickDesk other = full();
        checks.dueThrown("letter number 161", () -> other.letter(']'), "IllegalStateException");
        checks.due("a full text is read without it", other.load(), 80);
    }

    private static void checkFullAndNoLetter(Checks checks) {
        checks.of("(that first)");
        PickDesk desk = full();
        for (int c : NO_LETTERS) {
            checks.dueThrown("no letter number 161", () -> desk.letter(c), "IllegalArgumentException");
        }
        checks.due("length of a full text", desk.about(0), 160);
        checks.due("a full text is read without it", desk.load(), 80);
    }

    private static void checkAfterFull(Checks checks) {
        checks.of("A character comes to the text, when a full one has been read");
        PickDesk loaded = full();
        loaded.load();
        checks.due("first letter behind load", loaded.letter('n'), 1);
        checks.due("the next text", loaded.load(), 1);
        PickDesk asked = full();
        checks.due("a full text is no query", asked.query(), -2);
        checks.due("first letter behind query", asked.letter('n'), 1);
        checks.due("the next query", asked.query(), 0);
    }
}
