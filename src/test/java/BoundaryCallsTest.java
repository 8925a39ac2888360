/** What a new object is, how long one is used, and promises 8 and 9 at their edges. */
public final class BoundaryCallsTest extends OperationTexts {
    private static final Sentences DOC = new Sentences("calls");
    private static final int CALLS = 512;

    public static void main(String[] args) {
        DOC.says("public static final int", BoundaryCallsTest::constants);
        DOC.says("The document null", BoundaryCallsTest::nullDocument);
        DOC.says("an empty buffer", BoundaryCallsTest::emptyBuffer);
        DOC.says("nothing written", BoundaryCallsTest::nothingWritten);
        DOC.says("A new object", "it has nothing of another", BoundaryCallsTest::apart);
        DOC.says("The document's size.", BoundaryCallsTest::sizes);
        DOC.says("The document's depth.", BoundaryCallsTest::depths);
        DOC.says("An object is used for at most 512 calls after it has been made",
                BoundaryCallsTest::lastCall);
        DOC.says("An object is used for at most 512 calls after it has been made", "dear ones",
                BoundaryCallsTest::dearestCalls);
        DOC.end();
    }

    private static void constants() {
        DOC.due("BAD", PatchedDocument.BAD, -1);
        DOC.due("FULL", PatchedDocument.FULL, -2);
        DOC.due("NOWHERE", PatchedDocument.NOWHERE, -3);
    }

    private static void nullDocument() {
        DOC.due("look", new PatchedDocument().look(), 0);
        DOC.due("write", new PatchedDocument().write(), 4);
        DOC.due("size", new PatchedDocument().size(), 1);
        DOC.due("depth", new PatchedDocument().depth(), 1);
        DOC.due("look for a row", Checks.look(new PatchedDocument(), "/"), -3);
    }

    private static void emptyBuffer() {
        DOC.due("type", new PatchedDocument().type(' ', 1), 1);
        DOC.due("read", new PatchedDocument().read(), -100);
        DOC.due("patch", new PatchedDocument().patch(), -100);
    }

    private static void nothingWritten() {
        PatchedDocument d = new PatchedDocument();
        for (int i = -1; i <= 400; i++) {
            DOC.due("written(" + i + ")", d.written(i), -1);
        }
    }

    private static void apart() {
        PatchedDocument one = Sentences.make("[1,2]");
        one.write();
        Checks.type(one, "/1");
        PatchedDocument other = new PatchedDocument();
        DOC.due("size", other.size(), 1);
        DOC.due("written", other.written(0), -1);
        DOC.due("type", other.type('/', 1), 1);
        DOC.due("read", other.read(), -100);
        DOC.due("look at the first", one.look(), 3);
        DOC.due("written by the first", Checks.written(one), "[1,2]");
    }

    private static void sizes() {
        PatchedDocument d = new PatchedDocument();
        Checks.read(d, Checks.listOf(47, "1"));
        DOC.due("behind the greatest read", d.size(), 48);
        Checks.read(d, Checks.listOf(48, "1"));
        DOC.due("behind a wrong read", d.size(), 48);
        Checks.patch(d, quoted(row(add("/-", "1"))));
        DOC.due("behind a patch that fails", d.size(), 48);
        Checks.patch(d, quoted(row(remove("/0"))));
        DOC.due("behind a remove", d.size(), 47);
        Checks.patch(d, quoted(row(add("", "[]"))));
        DOC.due("with none in it", d.size(), 1);
    }

    private static void depths() {
        PatchedDocument d = new PatchedDocument();
        Checks.read(d, "[[[[[1]]]],1]");
        DOC.due("behind the deepest read", d.depth(), 6);
        Checks.read(d, "[[[[[[1]]]]]]");
        DOC.due("behind a wrong read", d.depth(), 6);
        Checks.patch(d, quoted(row(replace("/0/0/0/0/0", "[1]"))));
        DOC.due("behind a patch that fails", d.depth(), 6);
        Checks.patch(d, quoted(row(remove("/0/0/0/0/0"))));
        DOC.due("behind a remove", d.depth(), 5);
        Checks.patch(d, quoted(row(remove("/0"))));
        DOC.due("without the deepest", d.depth(), 2);
        Checks.patch(d, quoted(row(add("", "{}"))));
        DOC.due("with none in it", d.depth(), 1);
    }

    private static void lastCall() {
        PatchedDocument d = new PatchedDocument();
        for (int calls = 0; calls < CALLS; calls += 4) {
            DOC.due("type, behind " + calls, d.type(0x5B375D, 3), 3);
            DOC.due("read, behind " + (calls + 1), d.read(), 2);
            DOC.due("write, behind " + (calls + 2), d.write(), 3);
            DOC.due("written, behind " + (calls + 3), d.written(1), (int) '7');
        }
    }

    /** The longest text is written by all calls but those that make it. */
    private static void dearestCalls() {
        PatchedDocument d = Sentences.make("['" + Checks.times(40, "\\n") + "']");
        int calls = 12;
        for (int i = 0; i < 46; i++) {
            DOC.due("a copy", Checks.patch(d, quoted(row(copy("/0", "/-")))), 1);
            calls += 6;
        }
        for (; calls < CALLS; calls++) {
            DOC.due("write, behind " + calls, d.write(), 47 * 243 + 1);
        }
    }
}
