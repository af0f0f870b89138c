/** Promise 2: letter. */
public final class Promise2LetterTest {
    private static final int[] NO_LETTERS = {31, 127, 0, -1, 10, 39 + 256, 65536 + 97, Integer.MIN_VALUE, Integer.MAX_VALUE};

    public static void main(String[] args) {
        Checks checks = new Checks("promise 2");
        PickDesk desk = new PickDesk();
        for (int c = 32; c <= 126; c++) {
            checks.due("letter " + c, desk.letter(c), c - 31);
        }
        for (int c : NO_LETTERS) {
            checks.dueThrown("letter " + c, () -> desk.letter(c), "IllegalArgumentException");
        }
        checks.due("length after wrong letters", desk.about(0), 95);
        for (int n = 96; n <= 160; n++) {
            checks.due("letter number " + n, desk.letter('a'), n);
        }
        checks.dueThrown("letter number 161", () -> desk.letter('a'), "IllegalStateException");
        for (int c : NO_LETTERS) {
            checks.dueThrown("wrong letter number 161", () -> desk.letter(c), "IllegalArgumentException");
        }
        checks.due("length of a full text", desk.about(0), 160);
        desk.load();
        checks.due("first letter of the next text", desk.letter('n'), 1);
        checks.due("the next text", desk.load(), 1);
        checks.end();
    }
}
