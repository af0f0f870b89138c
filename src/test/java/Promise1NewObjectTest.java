import java.lang.reflect.Constructor;
import java.lang.reflect.Field;
import java.lang.reflect.Method;
import java.lang.reflect.Modifier;
import java.util.TreeSet;

/** Promise 1, and the public face. */
public final class Promise1NewObjectTest {
    public static void main(String[] args) {
        Checks checks = new Checks("promise 1");
        checkEmptyText(checks);
        checkNulls(checks);
        checkNoQueries(checks);
        checkApart(checks);
        checkFace(checks);
        checks.end();
    }

    private static void checkEmptyText(Checks checks) {
        checks.of("An empty text");
        checks.due("text length", new PickDesk().about(0), 0);
        checks.due("load", new PickDesk().load(), -1);
        checks.due("query", new PickDesk().query(), -1);
        checks.due("the first letter", new PickDesk().letter('a'), 1);
    }

    private static void checkNulls(Checks checks) {
        checks.of("the document and the result are NULL");
        PickDesk desk = new PickDesk();
        checks.due("document kind", desk.about(2), 0);
        checks.due("document values", desk.about(3), 1);
        checks.due("result kind", desk.result(0), 0);
        checks.due("result size", desk.result(1), 0);
        checks.due("result length", desk.result(2), 1);
        checks.due("result values", desk.result(3), 1);
        checks.due("result written", Checks.written(desk), "n");
        checks.due("keep", desk.keep(), 0);
        checks.due("a query of the new document", Checks.query(desk, "@|type()"), 0);
        desk.run(0);
        checks.due("its type", Checks.written(desk), "'none'");
    }

    private static void checkNoQueries(Checks checks) {
        checks.of("no queries");
        PickDesk desk = new PickDesk();
        checks.due("queries", desk.about(1), 0);
        checks.dueThrown("run(0)", () -> desk.run(0), "IllegalArgumentException");
        checks.due("the first query", Checks.query(desk, "a"), 0);
    }

    private static void checkApart(Checks checks) {
        checks.of("A new object");
        PickDesk desk = Checks.deskWith("[1]");
        Checks.query(desk, "[0]");
        desk.run(0);
        Checks.type(desk, "abc");
        PickDesk other = new PickDesk();
        checks.due("another object's text", other.about(0), 0);
        checks.due("another object's queries", other.about(1), 0);
        checks.due("another object's document", other.about(2), 0);
        checks.due("another object's result", Checks.written(other), "n");
        checks.due("the text of the first one", desk.about(0), 3);
        checks.due("the result of the first one", Checks.written(desk), "1");
    }

    private static void checkFace(Checks checks) {
        checks.of("The public face");
        TreeSet<String> face = new TreeSet<>();
        for (Method m : PickDesk.class.getDeclaredMethods()) {
            if (!Modifier.isPrivate(m.getModifiers()) && !m.isSynthetic()) {
                face.add(m.toString());
            }
        }
        for (Field f : PickDesk.class.getDeclaredFields()) {
            if (!Modifier.isPrivate(f.getModifiers()) && !f.isSynthetic()) {
                face.add(f.toString());
            }
        }
        for (Constructor<?> c : PickDesk.class.getDeclaredConstructors()) {
            face.add(c.toString());
        }
        TreeSet<String> want = new TreeSet<>();
        want.add("public static final int PickDesk.NONE");
        want.add("public PickDesk()");
        want.add("public int PickDesk.letter(int)"
            + " throws java.lang.IllegalArgumentException,java.lang.IllegalStateException");
        want.add("public int PickDesk.load()");
        want.add("public int PickDesk.query() throws java.lang.IllegalStateException");
        want.add("public int PickDesk.run(int) throws java.lang.IllegalArgumentException");
        want.add("public int PickDesk.keep()");
        want.add("public int PickDesk.result(int)");
        want.add("public int PickDesk.written(int)");
        want.add("public int PickDesk.about(int)");
        checks.due("the face", face, want);
        checks.due("NONE", PickDesk.NONE, -1);
        checks.due("final", Modifier.isFinal(PickDesk.class.getModifiers()), true);
    }
}
