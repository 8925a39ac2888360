/** Promise 5: character i of what is written; BAD when there is none. */
public final class Promise5WrittenTest {
    private static final Checks CHECKS = new Checks("promise 5");

    public static void main(String[] args) {
        edges();
        stays();
        fourHundred();
        CHECKS.end();
    }

    private static void edges() {
        PatchedDocument d = Checks.documentOf("[1,true]");
        CHECKS.due("before any write", d.written(0), -1);
        d.write();
        String text = "[1,true]";
        for (int i = 0; i < text.length(); i++) {
            CHECKS.due("written(" + i + ")", d.written(i), (int) text.charAt(i));
        }
        int[] outside = {-1, -2, 8, 9, 399, 400, 401, Integer.MAX_VALUE, Integer.MIN_VALUE};
        for (int i : outside) {
            CHECKS.due("written(" + i + ")", d.written(i), -1);
        }
        CHECKS.due("a shorter write", Checks.write(d, "/0"), 1);
        CHECKS.due("its character", d.written(0), (int) '1');
        CHECKS.due("none behind it", d.written(1), -1);
    }

    /** What is written is a text, not a view of the document. */
    private static void stays() {
        PatchedDocument d = Checks.documentOf("[1,true]");
        d.write();
        Checks.read(d, "{}");
        CHECKS.due("behind a read", Checks.written(d), "[1,true]");
        Checks.patch(d, "[{\"op\":\"add\",\"path\":\"\",\"value\":5}]");
        CHECKS.due("behind a patch", Checks.written(d), "[1,true]");
        d.look();
        d.size();
        d.depth();
        d.type('/', 1);
        CHECKS.due("behind other calls", Checks.written(d), "[1,true]");
        CHECKS.due("write nowhere", d.write(), -3);
        CHECKS.due("behind a write that is refused", Checks.written(d), "[1,true]");
        CHECKS.due("write", d.write(), 1);
        CHECKS.due("behind a write", Checks.written(d), "5");
    }

    /** Texts of just as many characters as are kept, one fewer, and one more. */
    private static void fourHundred() {
        String codes = "\"" + Checks.times(18, "\\u0000") + "\"";
        PatchedDocument d = Checks.documentOf("[" + codes + ",\"\"]");
        CHECKS.due("18 codes and none", d.write(), 115);
        String copy = "{\"op\":\"copy\",\"from\":\"/0\",\"path\":\"/0\"}";
        Checks.patch(d, "[" + copy + "," + copy + "]");
        CHECKS.due("18 codes three times", d.write(), 337);
        Checks.patch(d, "[{\"op\":\"add\",\"path\":\"/3\",\"value\":\"" + Checks.times(39, "x") + "\"}]");
        CHECKS.due("39 more", d.write(), 379);
        endsAt(d, 399, ']', -1);
        endsAt(d, 400, ']', ']');
        endsAt(d, 401, ']', '"');
        endsAt(d, 402, ']', 'y');
    }

    /** The last string is filled up to a whole of so many characters. */
    private static void endsAt(PatchedDocument d, int length, int last, int kept) {
        String text = Checks.times(length - 379, "y");
        Checks.patch(d, "[{\"op\":\"replace\",\"path\":\"/4\",\"value\":\"" + text + "\"}]");
        CHECKS.due("a write of " + length, d.write(), length);
        CHECKS.due("the last of " + length, d.written(length - 1), length <= 400 ? last : -1);
        CHECKS.due("the 400th of " + length, d.written(399), kept);
        CHECKS.due("the 401st of " + length, d.written(400), -1);
    }
}
