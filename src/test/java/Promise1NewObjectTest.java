/** Promise 1: the document null, an empty buffer, nothing written. */
public final class Promise1NewObjectTest {
    public static void main(String[] args) {
        Checks checks = new Checks("promise 1");
        checks.due("look() at once", new PatchedDocument().look(), 0);
        checks.due("write() at once", new PatchedDocument().write(), 4);
        checks.due("size() at once", new PatchedDocument().size(), 1);
        checks.due("depth() at once", new PatchedDocument().depth(), 1);
        checks.due("type(1 character) at once", new PatchedDocument().type('a', 1), 1);
        checks.due("read() at once", new PatchedDocument().read(), -100);
        checks.due("patch() at once", new PatchedDocument().patch(), -100);
        checks.due("written(0) at once", new PatchedDocument().written(0), -1);
        checks.due("written(399) at once", new PatchedDocument().written(399), -1);
        objectsAreApart(checks);
        constants(checks);
        checks.end();
    }

    private static void objectsAreApart(Checks checks) {
        PatchedDocument one = Checks.documentOf("[1,2]");
        Checks.type(one, "/1");
        PatchedDocument other = new PatchedDocument();
        checks.due("size() of another", other.size(), 1);
        checks.due("type() of another", other.type('/', 1), 1);
        checks.due("look() of the one", one.look(), 3);
    }

    private static void constants(Checks checks) {
        checks.due("BAD", PatchedDocument.BAD, -1);
        checks.due("FULL", PatchedDocument.FULL, -2);
        checks.due("NOWHERE", PatchedDocument.NOWHERE, -3);
    }
}
