import java.io.IOException;
import java.nio.file.Files;
import java.nio.file.Path;

/** Promises 4 and 5, by the README's own lines: what it shows of a query is what the query gives. */
public final class ReadmeTest {
    private static final String ARROW = " -> ";

    public static void main(String[] args) throws IOException {
        Checks checks = new Checks("promises 4 and 5, README");
        String document = "";
        int queries = 0;
        for (String line : Files.readAllLines(Path.of("README.md"))) {
            int arrow = line.indexOf(ARROW);
            if (arrow >= 0) {
                String asked = line.substring(0, arrow).trim();
                String shown = line.substring(arrow + ARROW.length());
                if (asked.equals("document")) {
                    document = shown;
                } else {
                    checks.due(asked, answer(document, asked), shown);
                    queries++;
                }
            }
        }
        checks.due("the README shows queries", queries > 20, true);
        checkCodeExample(checks);
        checks.end();
    }

    private static String answer(String document, String query) {
        PickDesk desk = Checks.deskWith(document);
        int number = Checks.query(desk, query);
        if (number < 0) {
            return "error " + number;
        }
        int failure = desk.run(number);
        return failure == 0 ? Checks.written(desk) : "failure " + failure;
    }

    private static void checkCodeExample(Checks checks) {
        PickDesk desk = new PickDesk();
        checks.due("load", Checks.load(desk, "[{a:3,b:'x'},{a:1,b:'y'}]"), 7);
        checks.due("query", Checks.query(desk, "sort(a)|[*].b"), 0);
        checks.due("run", desk.run(0), 0);
        checks.due("written(1)", desk.written(1), (int) '\'');
        checks.due("written", Checks.written(desk), "['y','x']");
    }
}
