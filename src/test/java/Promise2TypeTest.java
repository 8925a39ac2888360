/** Promise 2: characters come behind the buffer, or BAD, or FULL. */
public final class Promise2TypeTest {
    private static final Checks CHECKS = new Checks("promise 2");

    public static void main(String[] args) {
        order();
        howMany();
        codes();
        refusedLeavesTheBuffer();
        full();
        emptied();
        CHECKS.end();
    }

    private static void order() {
        PatchedDocument document = new PatchedDocument();
        CHECKS.due("type 12", document.type(0x3132, 2), 2);
        CHECKS.due("type 345", document.type(0x333435, 3), 5);
        CHECKS.due("read", document.read(), 1);
        CHECKS.due("the text", Checks.textOf(document), "12345");
    }

    private static void howMany() {
        PatchedDocument document = new PatchedDocument();
        long eight = 0x3131313131313131L;
        CHECKS.due("n 0", document.type(eight, 0), -1);
        CHECKS.due("n -1", document.type(eight, -1), -1);
        CHECKS.due("n 9", document.type(eight, 9), -1);
        CHECKS.due("n least", document.type(eight, Integer.MIN_VALUE), -1);
        CHECKS.due("n greatest", document.type(eight, Integer.MAX_VALUE), -1);
        CHECKS.due("n 65", document.type(eight, 65), -1);
        CHECKS.due("n 1", document.type(eight, 1), 1);
        CHECKS.due("n 8", document.type(eight, 8), 9);
        CHECKS.due("n 4", document.type(eight, 4), 13);
    }

    private static void codes() {
        for (int code = 0; code < 256; code++) {
            boolean typeable = code >= 32 && code <= 126;
            for (int n = 1; n <= 8; n++) {
                for (int at = 0; at < 8; at++) {
                    long mask = 255L << (8 * at);
                    long characters = 0x6161616161616161L & ~mask | (long) code << (8 * at);
                    int due = typeable || at >= n ? n : -1;
                    CHECKS.due("code " + code + " at byte " + at + " of " + n,
                            new PatchedDocument().type(characters, n), due);
                }
            }
        }
        CHECKS.due("bytes above the lowest", new PatchedDocument().type(-1L << 8 | 'a', 1), 1);
    }

    private static void refusedLeavesTheBuffer() {
        PatchedDocument document = new PatchedDocument();
        CHECKS.due("type 1", document.type('1', 1), 1);
        CHECKS.due("one of two is wrong", document.type(0x321F, 2), -1);
        CHECKS.due("the other of two is wrong", document.type(0x7F32, 2), -1);
        CHECKS.due("n is wrong", document.type('2', 0), -1);
        CHECKS.due("type 2", document.type('2', 1), 2);
        CHECKS.due("read", document.read(), 1);
        CHECKS.due("the text", Checks.textOf(document), "12");
    }

    private static void full() {
        PatchedDocument document = new PatchedDocument();
        Checks.type(document, Checks.times(117, " "));
        CHECKS.due("4 behind 117", document.type(0x20202020, 4), -2);
        CHECKS.due("8 behind 117", document.type(0x2020202020202020L, 8), -2);
        CHECKS.due("wrong ones behind 117", document.type(0x20200020, 4), -1);
        CHECKS.due("9 behind 117", document.type(0x20202020, 9), -1);
        CHECKS.due("3 behind 117", document.type(0x202020, 3), 120);
        CHECKS.due("1 behind 120", document.type(' ', 1), -2);
        CHECKS.due("a wrong one behind 120", document.type(0, 1), -1);
        CHECKS.due("read", document.read(), -220);
        CHECKS.due("1 behind that", document.type('1', 1), 1);
    }

    /** Every call that reads the buffer empties it, whatever it answers; the others do not. */
    private static void emptied() {
        PatchedDocument document = Checks.documentOf("[1]");
        CHECKS.due("read", Checks.read(document, "[1]"), 2);
        CHECKS.due("type behind read", document.type(' ', 1), 1);
        CHECKS.due("wrong read", document.read(), -101);
        CHECKS.due("type behind wrong read", document.type('/', 1), 1);
        CHECKS.due("write nowhere", document.write(), -3);
        CHECKS.due("type behind write nowhere", document.type('0', 1), 1);
        CHECKS.due("wrong write", document.write(), -100);
        CHECKS.due("write", Checks.write(document, "/0"), 1);
        CHECKS.due("type behind write", document.type('/', 1), 1);
        CHECKS.due("look nowhere", document.look(), -3);
        CHECKS.due("wrong look", Checks.look(document, "x"), -100);
        CHECKS.due("look", Checks.look(document, "/0"), 3);
        CHECKS.due("type behind look", document.type('[', 1), 1);
        CHECKS.due("wrong patch", document.patch(), -101);
        CHECKS.due("bad patch", Checks.patch(document, "{}"), -1);
        CHECKS.due("failing patch", Checks.patch(document, "[1]"), -1000);
        CHECKS.due("patch", Checks.patch(document, "[]"), 0);
        CHECKS.due("type behind patch", document.type('/', 1), 1);
        document.size();
        document.depth();
        document.written(0);
        CHECKS.due("type behind size, depth and written", document.type('0', 1), 2);
        CHECKS.due("look at both", document.look(), 3);
    }
}
