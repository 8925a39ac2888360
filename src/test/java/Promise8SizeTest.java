/** Promise 8: the document's size. */
public final class Promise8SizeTest {
    private static final Checks CHECKS = new Checks("promise 8");

    public static void main(String[] args) {
        sized("null", 1);
        sized("5", 1);
        sized("\"abc\"", 1);
        sized("[]", 1);
        sized("{}", 1);
        sized("[1]", 2);
        sized("[[[]]]", 3);
        sized("{\"a\":1,\"b\":{\"c\":[1,2]}}", 6);
        sized(Checks.listOf(47, "1"), 48);
        changes();
        CHECKS.end();
    }

    private static void sized(String text, int size) {
        CHECKS.due("size of " + text, Checks.documentOf(text).size(), size);
    }

    private static void changes() {
        PatchedDocument d = Checks.documentOf("{\"a\":[1,2]}");
        Checks.patch(d, "[{\"op\":\"add\",\"path\":\"/b\",\"value\":[[3]]}]");
        CHECKS.due("behind an add", d.size(), 7);
        Checks.patch(d, "[{\"op\":\"add\",\"path\":\"/b\",\"value\":0}]");
        CHECKS.due("behind an add in place", d.size(), 5);
        Checks.patch(d, "[{\"op\":\"copy\",\"from\":\"\",\"path\":\"/c\"}]");
        CHECKS.due("behind a copy", d.size(), 10);
        Checks.patch(d, "[{\"op\":\"move\",\"from\":\"/a\",\"path\":\"/c/b\"}]");
        CHECKS.due("behind a move", d.size(), 9);
        Checks.patch(d, "[{\"op\":\"replace\",\"path\":\"/c/a\",\"value\":[]}]");
        CHECKS.due("behind a replace", d.size(), 7);
        Checks.patch(d, "[{\"op\":\"remove\",\"path\":\"/c\"}]");
        CHECKS.due("behind a remove", d.size(), 2);
        Checks.patch(d, "[{\"op\":\"remove\",\"path\":\"/b\"},{\"op\":\"remove\",\"path\":\"/b\"}]");
        CHECKS.due("behind a patch that fails", d.size(), 2);
    }
}
