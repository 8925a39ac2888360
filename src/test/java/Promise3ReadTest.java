/** Promise 3: the document becomes what the buffer is a text of, or the wrong place is told. */
public final class Promise3ReadTest {
    private static final Checks CHECKS = new Checks("promise 3");

    public static void main(String[] args) {
        plainTexts();
        blanks();
        escapes();
        words();
        numbers();
        strings();
        lists();
        objects();
        limits();
        wrongLeavesTheDocument();
        CHECKS.end();
    }

    private static void reads(String text, int size, String behind) {
        PatchedDocument document = new PatchedDocument();
        CHECKS.due("read " + text, Checks.read(document, text), size);
        CHECKS.due("the text of " + text, Checks.textOf(document), behind);
    }

    private static void wrong(String text, int place) {
        PatchedDocument document = Checks.documentOf("[7]");
        CHECKS.due("read " + text, Checks.read(document, text), -100 - place);
        CHECKS.due("the text behind " + text, Checks.textOf(document), "[7]");
    }

    private static void plainTexts() {
        String[] single = {"null", "false", "true", "0", "7", "-1", "10", "999999999",
            "-999999999", "\"\"", "\"a b\"", "[]", "{}"};
        for (String text : single) {
            reads(text, 1, text);
        }
        reads("[1,[2,[3]],{}]", 7, "[1,[2,[3]],{}]");
        reads("{\"a\":{\"a\":[null]},\"\":false}", 5, "{\"a\":{\"a\":[null]},\"\":false}");
    }

    private static void blanks() {
        reads("  null  ", 1, "null");
        reads(" [ ] ", 1, "[]");
        reads("  {  }  ", 1, "{}");
        reads(" [ 1 , 2 , [ ] , { } ] ", 5, "[1,2,[],{}]");
        reads(" { \"a\" : 1 , \"b\" : [ 2 ] } ", 4, "{\"a\":1,\"b\":[2]}");
        reads("\" a \"", 1, "\" a \"");
        wrong("nu ll", 2);
        wrong("- 1", 1);
        wrong("1 2", 2);
        wrong("[1 2]", 3);
        wrong("\"\\ n\"", 2);
        wrong("   ", 3);
        wrong("[1  ", 4);
        wrong("[ 1 , ", 6);
    }

    private static void escapes() {
        reads("\"\\\"\\\\\\/\\b\\f\\n\\r\\t\"", 1,
                "\"\\\"\\\\/\\u0008\\u000c\\u000a\\u000d\\u0009\"");
        reads("\"\\u0000\\u001F\\u001f\\u0020\\u007e\\u007E\\u007f\\u007F\"", 1,
                "\"\\u0000\\u001f\\u001f ~~\\u007f\\u007f\"");
        reads("\"\\u0022\\u005c\\u005C\\u002f\\u0041\\u004a\"", 1, "\"\\\"\\\\\\\\/AJ\"");
        reads("{\"\\u0061\\n\":1}", 2, "{\"a\\u000a\":1}");
        String known = "\"\\/bfnrtu";
        for (char c = 32; c < 127; c++) {
            if (known.indexOf(c) < 0) {
                wrong("\"\\" + c + "\"", 2);
            }
        }
        wrong("\"\\", 2);
        wrong("\"\\u", 3);
        wrong("\"\\u0", 4);
        wrong("\"\\u00", 5);
        wrong("\"\\u004", 6);
        wrong("\"\\u0041", 7);
        wrong("\"\\U0041\"", 2);
        wrong("\"\\ug041\"", 3);
        wrong("\"\\u0G41\"", 4);
        wrong("\"\\u00@1\"", 5);
        wrong("\"\\u004:\"", 6);
        wrong("\"\\u004/\"", 6);
        wrong("\"\\u004`\"", 6);
        wrong("\"\\u0080\"", 6);
        wrong("\"\\u00ff\"", 6);
        wrong("\"\\u0100\"", 6);
        wrong("\"\\u1000\"", 6);
        wrong("\"\\uFFFF\"", 6);
        wrong("\"\\uFFF", 6);
        wrong("\"\\uFFF\"", 6);
        wrong("\"\\uFF\"", 5);
    }

    private static void words() {
        for (String word : new String[] {"null", "false", "true"}) {
            for (int i = 0; i < word.length(); i++) {
                wrong(word.substring(0, i), i);
                wrong(word.substring(0, i) + "_" + word.substring(i + 1), i);
                wrong("[0," + word.substring(0, i) + "]", i + 3);
            }
            wrong(word + "l", word.length());
            wrong(word + "\"", word.length());
            wrong("[" + word + word + "]", word.length() + 1);
        }
        wrong("Null", 0);
        wrong("tRUE", 1);
    }

    private static void numbers() {
        reads("-0", 1, "0");
        reads("[-0,0]", 3, "[0,0]");
        wrong("-", 1);
        wrong("--1", 1);
        wrong("+1", 0);
        wrong("-a", 1);
        wrong("[-]", 2);
        wrong("00", 1);
        wrong("01", 1);
        wrong("-00", 2);
        wrong("-01", 2);
        wrong("1.5", 1);
        wrong("1e5", 1);
        wrong("1-", 1);
        wrong("1234567890", 9);
        wrong("-1234567890", 10);
        wrong("[1234567890]", 10);
        wrong("12345678901", 9);
        wrong("1:", 1);
        wrong("1/", 1);
    }

    private static void strings() {
        String forty = Checks.times(40, "x");
        reads("\"" + forty + "\"", 1, "\"" + forty + "\"");
        String newlines = Checks.times(40, "\\n");
        reads("\"" + newlines + "\"", 1, "\"" + Checks.times(40, "\\u000a") + "\"");
        wrong("\"" + forty, 41);
        wrong("\"" + forty + "x\"", 41);
        wrong("\"" + forty + " \"", 41);
        wrong("\"" + forty + "\\n\"", 41);
        wrong("\"" + forty + "\\u0080\"", 41);
        wrong("\"" + newlines + "x\"", 81);
        wrong("{\"" + forty + "x\":1}", 42);
        reads("{\"" + forty + "\":1}", 2, "{\"" + forty + "\":1}");
        wrong("\"", 1);
        wrong("\"ab", 3);
        wrong("\"\"\"", 2);
        wrong("'a'", 0);
    }

    private static void lists() {
        wrong("[", 1);
        wrong("]", 0);
        wrong("[,", 1);
        wrong("[1", 2);
        wrong("[1,", 3);
        wrong("[1,]", 3);
        wrong("[1,,2]", 3);
        wrong("[1}", 2);
        wrong("[}", 1);
        wrong("[1]]", 3);
        wrong("[1] 2", 4);
        wrong("[1:2]", 2);
        wrong("[\"a\":2]", 4);
        wrong("[[1]", 4);
        wrong("[][]", 2);
    }

    private static void objects() {
        wrong("{", 1);
        wrong("}", 0);
        wrong("{,", 1);
        wrong("{1", 1);
        wrong("{a:1}", 1);
        wrong("{\"a", 3);
        wrong("{\"a\"", 4);
        wrong("{\"a\"}", 4);
        wrong("{\"a\",", 4);
        wrong("{\"a\" 1}", 5);
        wrong("{\"a\":", 5);
        wrong("{\"a\":}", 5);
        wrong("{\"a\":,", 5);
        wrong("{\"a\"::1}", 5);
        wrong("{\"a\":1", 6);
        wrong("{\"a\":1]", 6);
        wrong("{\"a\":1 \"b\":2}", 7);
        wrong("{\"a\":1,", 7);
        wrong("{\"a\":1,}", 7);
        wrong("{\"a\":1,1", 7);
        wrong("{\"a\":1}}", 7);
        wrong("{]", 1);
        wrong("{\"a\":1,\"a\":2}", 9);
        wrong("{\"a\":1,\"b\":2,\"a\":3}", 15);
        wrong("{\"a\":1,\"b\":2,\"b\"", 15);
        wrong("{\"a\":1, \"\\u0061\" :2}", 15);
        wrong("{\"\":1,\"\":2}", 7);
        wrong("{\"/\":1,\"\\/\":2}", 10);
        wrong("[{\"a\":{\"b\":1}},{\"b\":1,\"b\"", 24);
        reads("{\"a\":{\"a\":1},\"A\":2}", 4, "{\"a\":{\"a\":1},\"A\":2}");
        reads("[{\"a\":1},{\"a\":1}]", 5, "[{\"a\":1},{\"a\":1}]");
        reads("{\"a\":1,\"a \":2,\"\":3}", 4, "{\"a\":1,\"a \":2,\"\":3}");
    }

    private static void limits() {
        reads(Checks.listOf(47, "1"), 48, Checks.listOf(47, "1"));
        wrong(Checks.listOf(48, "1"), 95);
        wrong(Checks.listOf(47, "1").replace("]", ",  1]"), 97);
        wrong(Checks.listOf(47, "1").replace("]", ","), 95);
        wrong(Checks.listOf(47, "1").replace("]", ",]"), 95);
        String fortySix = "[" + Checks.times(20, "[],1,") + "1,1,1,1,1,";
        reads(fortySix + "[1]]", 48, fortySix + "[1]]");
        wrong(fortySix + "[1],1]", 115);
        wrong(fortySix + "[],[1]]", 115);
        wrong(fortySix + "[],{\"\":1}", 118);
        reads("[[[[[[]]]]]]", 6, "[[[[[[]]]]]]");
        reads("[[[[[1]]]]]", 6, "[[[[[1]]]]]");
        reads("[[[[[{}]]]]]", 6, "[[[[[{}]]]]]");
        wrong("[[[[[[1]]]]]]", 6);
        wrong("[[[[[[[]]]]]]]", 6);
        wrong("[[[[[[ x", 7);
        wrong("[[[[[{\"a\":1}]]]]]", 10);
        wrong("[[[[[{\"a\" 1}]]]]]", 10);
        wrong("{\"a\":{\"a\":{\"a\":{\"a\":{\"a\":{\"a\":1}}}}}}", 30);
        reads("[[[[[1,2]]]],[[[[3]]]]]", 12, "[[[[[1,2]]]],[[[[3]]]]]");
    }

    private static void wrongLeavesTheDocument() {
        PatchedDocument document = Checks.documentOf("{\"a\":[1,2]}");
        CHECKS.due("wrong read", Checks.read(document, "[1,2,3"), -106);
        CHECKS.due("size", document.size(), 4);
        CHECKS.due("depth", document.depth(), 3);
        CHECKS.due("text", Checks.textOf(document), "{\"a\":[1,2]}");
        CHECKS.due("empty read", document.read(), -100);
        CHECKS.due("text", Checks.textOf(document), "{\"a\":[1,2]}");
        CHECKS.due("read again", Checks.read(document, "[]"), 1);
        CHECKS.due("text", Checks.textOf(document), "[]");
    }
}
