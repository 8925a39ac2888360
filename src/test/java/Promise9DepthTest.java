/** Promise 9: the document's depth. */
public final class Promise9DepthTest {
    private static final Checks CHECKS = new Checks("promise 9");

    public static void main(String[] args) {
        deep("null", 1);
        deep("5", 1);
        deep("\"[[[\"", 1);
        deep("[]", 1);
        deep("{}", 1);
        deep("[1]", 2);
        deep("[[]]", 2);
        deep("{\"a\":1}", 2);
        deep("[1,[2,[3]],4]", 4);
        deep("[[[1]],2]", 4);
        deep("[2,[[1]]]", 4);
        deep("[[1],{\"a\":[{}]},[2]]", 4);
        deep("[[[[[1]]]]]", 6);
        deep("{\"a\":[{\"a\":[{\"a\":{}}]}]}", 6);
        changes();
        CHECKS.end();
    }

    private static void deep(String text, int depth) {
        CHECKS.due("depth of " + text, Checks.documentOf(text).depth(), depth);
    }

    private static void changes() {
        PatchedDocument d = Checks.documentOf("{\"a\":[1,2]}");
        Checks.patch(d, "[{\"op\":\"add\",\"path\":\"/b\",\"value\":[[3]]}]");
        CHECKS.due("behind an add", d.depth(), 4);
        Checks.patch(d, "[{\"op\":\"copy\",\"from\":\"/b\",\"path\":\"/a/0\"}]");
        CHECKS.due("behind a copy", d.depth(), 5);
        Checks.patch(d, "[{\"op\":\"move\",\"from\":\"/a/0\",\"path\":\"/b/0/0\"}]");
        CHECKS.due("behind a move", d.depth(), 6);
        Checks.patch(d, "[{\"op\":\"replace\",\"path\":\"/b/0\",\"value\":0}]");
        CHECKS.due("behind a replace", d.depth(), 3);
        Checks.patch(d, "[{\"op\":\"remove\",\"path\":\"/a\"},{\"op\":\"remove\",\"path\":\"/b\"}]");
        CHECKS.due("behind two removes", d.depth(), 1);
        Checks.patch(d, "[{\"op\":\"add\",\"path\":\"/b\",\"value\":1},{}]");
        CHECKS.due("behind a patch that fails", d.depth(), 1);
    }
}
