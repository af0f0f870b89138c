import java.util.Random;

/** Runs of any calls at all: none throws what the document does not name, and what is written can be read again. */
public final class AnyCallsTest {
    private static final String[] PIECES = {
        "[", "]", "{", "}", "a:", "b:", ",", "'", "n", "f", "t", "-", "0", "12", "'x'", "[]", "{}", "a", ".b", ".*", "[*]", "[0]",
        "[-1]", "[1:]", "[::-1]", "[?a]", "[?@<2]", "[?a==b]", "|", "@", "sort()", "sort(a)", "sum()", "max()", "keys()",
        "[1,2,3]", "{a:1,b:'y'}", "[{a:2},{a:1}]", "(", ")", ":", "?", "<", "=", " ", "abcdefgh", "1234567",
    };

    public static void main(String[] args) {
        Checks checks = new Checks("any calls");
        Random random = new Random(20261115);
        for (int run = 0; run < 3000; run++) {
            PickDesk desk = new PickDesk();
            for (int call = 0; call < 512; call++) {
                checkCall(checks, desk, random);
            }
        }
        checks.end();
    }

    private static void checkCall(Checks checks, PickDesk desk, Random random) {
        switch (random.nextInt(12)) {
            case 0: checkLoad(checks, desk); break;
            case 1: checkQuery(checks, desk); break;
            case 2: case 3: checkRun(checks, desk, random.nextInt(15) - 1); break;
            case 4: checks.due("kept kind", desk.keep(), desk.about(2)); break;
            case 5: checks.due("written behind the end", desk.written(desk.result(2)), PickDesk.NONE); break;
            case 6: checkWritten(checks, desk); break;
            default: checkLetters(checks, desk, PIECES[random.nextInt(PIECES.length)]); break;
        }
    }

    private static void checkLetters(Checks checks, PickDesk desk, String piece) {
        for (int i = 0; i < piece.length(); i++) {
            char c = piece.charAt(i);
            int length = desk.about(0);
            checks.dueThrown("letter", () -> desk.letter(c), length == 160 ? "IllegalStateException" : "nothing");
            checks.due("text length", desk.about(0), Math.min(160, length + 1));
        }
    }

    private static void checkLoad(Checks checks, PickDesk desk) {
        int length = desk.about(0);
        int values = desk.about(3);
        int answer = desk.load();
        checks.due("load's range", answer >= -1 - length && answer != 0, true);
        checks.due("values", desk.about(3), answer < 0 ? values : answer);
        checks.due("text length", desk.about(0), 0);
    }

    private static void checkQuery(Checks checks, PickDesk desk) {
        int length = desk.about(0);
        int queries = desk.about(1);
        if (queries == 12) {
            checks.dueThrown("query", desk::query, "IllegalStateException");
            return;
        }
        int answer = desk.query();
        checks.due("query's range", answer == queries || answer < 0 && answer >= -1 - length, true);
        checks.due("queries", desk.about(1), answer < 0 ? queries : queries + 1);
    }

    private static void checkRun(Checks checks, PickDesk desk, int q) {
        boolean there = q >= 0 && q < desk.about(1);
        checks.dueThrown("run", () -> desk.run(q), there ? "nothing" : "IllegalArgumentException");
        if (there) {
            int failure = desk.run(q);
            checks.due("failure's range", failure >= 0 && failure <= 2, true);
            checks.due("a failure gives NULL", failure == 0 || desk.result(0) == 0, true);
        }
    }

    private static void checkWritten(Checks checks, PickDesk desk) {
        String written = Checks.written(desk);
        checks.due("written length", written.length(), desk.result(2));
        PickDesk other = Checks.deskWith(written);
        checks.due("kind read again", other.about(2), desk.result(0));
        checks.due("values read again", other.about(3), desk.result(3));
        Checks.query(other, "@");
        other.run(0);
        checks.due("written again", Checks.written(other), written);
    }
}
