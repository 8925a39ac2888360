/** Promise 6: the kind and the extent of the value to which a pointer leads. */
public final class Promise6LookTest {
    private static final Checks CHECKS = new Checks("promise 6");

    public static void main(String[] args) {
        kinds();
        extents();
        refused();
        leavesAll();
        CHECKS.end();
    }

    private static void looks(String document, String pointer, int answer) {
        PatchedDocument d = Checks.documentOf(document);
        CHECKS.due("look " + pointer + " in " + document, Checks.look(d, pointer), answer);
    }

    private static void kinds() {
        looks("null", "", 0);
        looks("false", "", 1);
        looks("true", "", 2);
        looks("0", "", 3);
        looks("-123456789", "", 3);
        looks("\"\"", "", 4);
        looks("[]", "", 5);
        looks("{}", "", 6);
    }

    private static void extents() {
        looks("\"abc\"", "", 34);
        looks("\"\\n\\u0041\"", "", 24);
        looks("\"" + Checks.times(40, "x") + "\"", "", 404);
        looks("[1]", "", 15);
        looks("[[1,2,3],[4]]", "", 25);
        looks("[[1,2,3],[4]]", "/0", 35);
        looks("[[1,2,3],[4]]", "/0/2", 3);
        looks(Checks.listOf(47, "1"), "", 475);
        looks("{\"a\":[1,2],\"b\":{\"c\":null}}", "", 26);
        looks("{\"a\":[1,2],\"b\":{\"c\":null}}", "/a", 25);
        looks("{\"a\":[1,2],\"b\":{\"c\":null}}", "/b", 16);
        looks("{\"a\":[1,2],\"b\":{\"c\":null}}", "/b/c", 0);
        looks("{\"a~b\":\"x\",\"a/b\":true}", "/a~0b", 14);
        looks("{\"a~b\":\"x\",\"a/b\":true}", "/a~1b", 2);
    }

    private static void refused() {
        looks("[1,2]", "0", -100);
        looks("[1,2]", "/0~", -103);
        looks("[1,2]", "/~a", -102);
        looks("[1,2]", "/7/~3", -104);
        looks("[1,2]", "/2", -3);
        looks("[1,2]", "/-", -3);
        looks("[1,2]", "/00", -3);
        looks("[1,2]", "/0/0", -3);
        looks("[1,2]", "/", -3);
        looks("{\"a\":1}", "/b", -3);
        looks("\"abc\"", "/0", -3);
        looks("null", "/", -3);
    }

    private static void leavesAll() {
        PatchedDocument d = Checks.documentOf("[1,2]");
        d.write();
        Checks.look(d, "/1");
        Checks.look(d, "/9");
        CHECKS.due("what is written", Checks.written(d), "[1,2]");
        CHECKS.due("the document", Checks.textOf(d), "[1,2]");
    }
}
