/** Terms and promise 2: the edges of the buffer and of what is typed into it. */
public final class BoundaryBufferTest extends OperationTexts {
    private static final Sentences DOC = new Sentences("the buffer");
    private static final long EIGHT_BLANKS = 0x2020202020202020L;
    private static final int[] NOT_TYPEABLE = {0, 1, 10, 31, 127, 128, 160, 255};

    public static void main(String[] args) {
        DOC.says("THE BUFFER has at most 120 characters", BoundaryBufferTest::mostCharacters);
        DOC.says("codes 32 .. 126", BoundaryBufferTest::codes);
        DOC.says("Every call that reads it empties it", "read", BoundaryBufferTest::emptiedByRead);
        DOC.says("Every call that reads it empties it", "write", BoundaryBufferTest::emptiedByWrite);
        DOC.says("Every call that reads it empties it", "look", BoundaryBufferTest::emptiedByLook);
        DOC.says("Every call that reads it empties it", "patch", BoundaryBufferTest::emptiedByPatch);
        DOC.says("Every call that reads it empties it", "no other call",
                BoundaryBufferTest::notEmptiedByOthers);
        DOC.says("The lowest n bytes of characters", BoundaryBufferTest::lowestBytes);
        DOC.says("the highest of them first", BoundaryBufferTest::highestFirst);
        DOC.says("come behind the buffer: how many it has", BoundaryBufferTest::behindTheBuffer);
        DOC.says("BAD when n is not 1 .. 8", BoundaryBufferTest::wrongCounts);
        DOC.says("or one is not 32 .. 126", BoundaryBufferTest::wrongCodes);
        DOC.says("FULL when there would be more than 120", BoundaryBufferTest::fullBuffer);
        DOC.says("BAD when n is not 1 .. 8 or one is not 32 .. 126; FULL when", "both",
                BoundaryBufferTest::badBeforeFull);
        DOC.says("come behind the buffer", "none of a refused call",
                BoundaryBufferTest::refusedLeavesTheBuffer);
        DOC.end();
    }

    private static PatchedDocument withBlanks(int n) {
        PatchedDocument d = new PatchedDocument();
        Checks.type(d, Checks.times(n, " "));
        return d;
    }

    private static void mostCharacters() {
        PatchedDocument byEights = new PatchedDocument();
        for (int n = 8; n <= 120; n += 8) {
            DOC.due("type 8, up to " + n, byEights.type(EIGHT_BLANKS, 8), n);
        }
        DOC.due("the 121st", byEights.type(' ', 1), -2);
        DOC.due("read 120 blanks", byEights.read(), -220);
        PatchedDocument byOnes = new PatchedDocument();
        for (int n = 1; n <= 120; n++) {
            DOC.due("type 1, up to " + n, byOnes.type(' ', 1), n);
        }
        DOC.due("the 121st", byOnes.type(' ', 1), -2);
        DOC.reads(Checks.times(119, " ") + "7", 1, "7");
        DOC.reads("7" + Checks.times(119, " "), 1, "7");
    }

    private static void codes() {
        for (int code = 0; code < 256; code++) {
            int due = code >= 32 && code <= 126 ? 1 : -1;
            DOC.due("type code " + code, new PatchedDocument().type(code, 1), due);
        }
        StringBuilder all = new StringBuilder();
        for (char code = 32; code <= 126; code++) {
            all.append(code);
        }
        DOC.due("type them all", Checks.type(new PatchedDocument(), all.toString()), 95);
    }

    /** The buffer is empty if what is typed next is all that it has. */
    private static void empty(String call, PatchedDocument d) {
        DOC.due("type behind " + call, d.type(' ', 1), 1);
        d.look();
    }

    private static void emptiedByRead() {
        PatchedDocument d = Checks.documentOf("[1]");
        empty("a read", d);
        DOC.due("read a wrong text", Checks.read(d, "[1"), -102);
        empty("a wrong read", d);
        DOC.due("read nothing", d.read(), -100);
        empty("a read of nothing", d);
        Checks.type(d, Checks.times(120, " "));
        DOC.due("read a full buffer", d.read(), -220);
        empty("a read of a full buffer", d);
    }

    private static void emptiedByWrite() {
        PatchedDocument d = Checks.documentOf("[1]");
        DOC.due("write", Checks.write(d, "/0"), 1);
        empty("a write", d);
        DOC.due("write nowhere", Checks.write(d, "/1"), -3);
        empty("a write nowhere", d);
        DOC.due("write by no pointer", Checks.write(d, "1"), -100);
        empty("a write by no pointer", d);
        DOC.due("write all", d.write(), 3);
        empty("a write of all", d);
    }

    private static void emptiedByLook() {
        PatchedDocument d = Checks.documentOf("[1]");
        DOC.due("look", Checks.look(d, "/0"), 3);
        empty("a look", d);
        DOC.due("look nowhere", Checks.look(d, "/1"), -3);
        empty("a look nowhere", d);
        DOC.due("look by no pointer", Checks.look(d, "/~"), -102);
        empty("a look by no pointer", d);
    }

    private static void emptiedByPatch() {
        PatchedDocument d = Checks.documentOf("[1]");
        DOC.due("patch", Checks.patch(d, quoted(row(remove("/0")))), 1);
        empty("a patch", d);
        DOC.due("patch by none", Checks.patch(d, "[]"), 0);
        empty("a patch by none", d);
        DOC.due("patch by a wrong text", Checks.patch(d, "[1"), -102);
        empty("a patch by a wrong text", d);
        DOC.due("patch by no list", Checks.patch(d, "{}"), -1);
        empty("a patch by no list", d);
        DOC.due("patch that fails", Checks.patch(d, quoted(row(remove("/0")))), -1000);
        empty("a patch that fails", d);
    }

    private static void notEmptiedByOthers() {
        PatchedDocument d = Checks.documentOf("[1]");
        DOC.due("type", d.type('/', 1), 1);
        d.size();
        d.depth();
        d.written(0);
        d.type('x', 0);
        d.type(7, 1);
        DOC.due("type behind them", d.type('0', 1), 2);
        DOC.due("look", d.look(), 3);
    }

    private static void lowestBytes() {
        for (int n = 1; n <= 7; n++) {
            long low = 0x3131313131313131L & ((1L << 8 * n) - 1);
            long high = -1L << 8 * n;
            PatchedDocument d = new PatchedDocument();
            DOC.due("type " + n + " below others", d.type(high | low, n), n);
            DOC.due("read them", d.read(), 1);
            DOC.due("their text", Checks.textOf(d), Checks.times(n, "1"));
            DOC.due("type " + n + " below 0s", new PatchedDocument().type(low, n), n);
            DOC.due("type " + (n + 1) + " of these", new PatchedDocument().type(low, n + 1), -1);
        }
    }

    private static void highestFirst() {
        PatchedDocument d = new PatchedDocument();
        DOC.due("type eight", d.type(0x3132333435363738L, 8), 8);
        d.read();
        DOC.due("their text", Checks.textOf(d), "12345678");
        DOC.due("type two", d.type(0x3132333435363738L, 2), 2);
        d.read();
        DOC.due("their text", Checks.textOf(d), "78");
    }

    private static void behindTheBuffer() {
        PatchedDocument d = new PatchedDocument();
        DOC.due("type one", d.type('1', 1), 1);
        DOC.due("type two", d.type(0x3233, 2), 3);
        DOC.due("type one", d.type('4', 1), 4);
        d.read();
        DOC.due("their text", Checks.textOf(d), "1234");
    }

    private static void wrongCounts() {
        PatchedDocument d = new PatchedDocument();
        int[] wrong = {0, 9, -1, 10, 16, 256 + 1, -8, 65, Integer.MIN_VALUE, Integer.MIN_VALUE + 1,
            Integer.MAX_VALUE, 0x40000001};
        for (int n : wrong) {
            DOC.due("n " + n, d.type(EIGHT_BLANKS, n), -1);
        }
        int typed = 0;
        for (int n = 1; n <= 8; n++) {
            typed += n;
            DOC.due("n " + n, d.type(EIGHT_BLANKS, n), typed);
        }
    }

    private static void wrongCodes() {
        for (int n = 1; n <= 8; n++) {
            for (int at = 0; at < n; at++) {
                long others = EIGHT_BLANKS & ~(255L << 8 * at);
                for (long code : NOT_TYPEABLE) {
                    DOC.due("code " + code + " at byte " + at + " of " + n,
                            new PatchedDocument().type(others | code << 8 * at, n), -1);
                }
                DOC.due("code 126 at byte " + at + " of " + n,
                        new PatchedDocument().type(others | 126L << 8 * at, n), n);
            }
        }
    }

    private static void fullBuffer() {
        for (int n = 1; n <= 8; n++) {
            DOC.due(n + " behind " + (120 - n), withBlanks(120 - n).type(EIGHT_BLANKS, n), 120);
            DOC.due(n + " behind " + (121 - n), withBlanks(121 - n).type(EIGHT_BLANKS, n), -2);
            DOC.due(n + " behind 120", withBlanks(120).type(EIGHT_BLANKS, n), -2);
        }
    }

    private static void badBeforeFull() {
        DOC.due("9 behind 120", withBlanks(120).type(EIGHT_BLANKS, 9), -1);
        DOC.due("0 behind 120", withBlanks(120).type(EIGHT_BLANKS, 0), -1);
        DOC.due("code 31 behind 120", withBlanks(120).type(31, 1), -1);
        DOC.due("code 127 among 8 behind 113", withBlanks(113).type(EIGHT_BLANKS | 127, 8), -1);
    }

    private static void refusedLeavesTheBuffer() {
        PatchedDocument d = new PatchedDocument();
        Checks.type(d, Checks.times(118, " "));
        DOC.due("three behind 118", d.type(0x313233, 3), -2);
        DOC.due("one of two that can't be", d.type(0x3107, 2), -1);
        DOC.due("the other of two", d.type(0x0731, 2), -1);
        DOC.due("nine", d.type(0x31, 9), -1);
        DOC.due("two behind 118", d.type(0x3435, 2), 120);
        DOC.due("read", d.read(), 1);
        DOC.due("the text", Checks.textOf(d), "45");
    }
}
