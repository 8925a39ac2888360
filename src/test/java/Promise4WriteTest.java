/** Promise 4: the text of the value to which a pointer leads is written. */
public final class Promise4WriteTest {
    private static final Checks CHECKS = new Checks("promise 4");

    public static void main(String[] args) {
        values();
        numbers();
        characters();
        pointers();
        indices();
        wrongPointers();
        nowhere();
        longTexts();
        CHECKS.end();
    }

    private static void writes(String document, String pointer, String text) {
        PatchedDocument d = Checks.documentOf(document);
        CHECKS.due("write " + pointer + " of " + document, Checks.write(d, pointer), text.length());
        CHECKS.due("written " + pointer + " of " + document, Checks.written(d), text);
    }

    private static void refused(String document, String pointer, int answer) {
        PatchedDocument d = Checks.documentOf(document);
        d.write();
        String before = Checks.written(d);
        CHECKS.due("write " + pointer + " of " + document, Checks.write(d, pointer), answer);
        CHECKS.due("what stays behind it", Checks.written(d), before);
    }

    private static void values() {
        String document = "[null,false,true,12,\"s\",[],{},[1,2],{\"a\":1,\"b\":[]}]";
        writes(document, "", document);
        writes(document, "/0", "null");
        writes(document, "/1", "false");
        writes(document, "/2", "true");
        writes(document, "/3", "12");
        writes(document, "/4", "\"s\"");
        writes(document, "/5", "[]");
        writes(document, "/6", "{}");
        writes(document, "/7", "[1,2]");
        writes(document, "/8", "{\"a\":1,\"b\":[]}");
        writes("{\"z\":1,\"a\":2,\"m\":3}", "", "{\"z\":1,\"a\":2,\"m\":3}");
    }

    private static void numbers() {
        int[] numbers = {0, 1, 9, 10, 11, 99, 100, 101, 1000, 10000, 100000, 1000000, 10000000,
            99999999, 100000000, 100000001, 123456789, 900000009, 999999999};
        for (int number : numbers) {
            writes("" + number, "", "" + number);
            writes("" + -number, "", "" + -number);
        }
    }

    private static void characters() {
        for (int code = 0; code < 128; code++) {
            String due = String.valueOf((char) code);
            if (code < 32 || code == 127) {
                due = String.format("\\u%04x", code);
            } else if (code == '"' || code == '\\') {
                due = "\\" + due;
            }
            String escaped = String.format("\\u%04X", code);
            writes("\"" + escaped + "\"", "", "\"" + due + "\"");
            writes("{\"" + escaped + "\":0}", "", "{\"" + due + "\":0}");
        }
    }

    private static void pointers() {
        String document = "{\"\":{\"\":1},\"a/b\":2,\"c~d\":3,\"~1\":4,\"0\":5,\"-\":6,\"a\":[7,[8]]}";
        writes(document, "/", "{\"\":1}");
        writes(document, "//", "1");
        writes(document, "/a~1b", "2");
        writes(document, "/c~0d", "3");
        writes(document, "/~01", "4");
        writes(document, "/0", "5");
        writes(document, "/-", "6");
        writes(document, "/a/0", "7");
        writes(document, "/a/1/0", "8");
        writes("{\"~~//\":1,\"~0\":2,\"/\":3,\"~\":4}", "/~0~0~1~1", "1");
        writes("{\"~~//\":1,\"~0\":2,\"/\":3,\"~\":4}", "/~00", "2");
        writes("{\"~~//\":1,\"~0\":2,\"/\":3,\"~\":4}", "/~1", "3");
        writes("{\"~~//\":1,\"~0\":2,\"/\":3,\"~\":4}", "/~0", "4");
        writes("{\"01\":1,\"a b\":2}", "/01", "1");
        writes("{\"01\":1,\"a b\":2}", "/a b", "2");
        writes("{\"\\\\\":1,\"\\\"\":2}", "/\\", "1");
        writes("{\"\\\\\":1,\"\\\"\":2}", "/\"", "2");
        writes("{\"\\\\u0041\":1,\"A\":2}", "/\\u0041", "1");
        writes(Checks.listOf(12, "4"), "/11", "4");
        String forty = Checks.times(40, "n");
        writes("{\"" + forty + "\":1}", "/" + forty, "1");
        writes("{\"" + Checks.times(40, "~") + "\":1}", "/" + Checks.times(40, "~0"), "1");
        writes("[[[[[5]]]]]", "/0/0/0/0/0", "5");
    }

    private static void indices() {
        StringBuilder list = new StringBuilder("[0");
        for (int i = 1; i < 40; i++) {
            list.append(",").append(i);
        }
        for (int i = 0; i < 40; i++) {
            writes(list + "]", "/" + i, "" + i);
        }
        refused(list + "]", "/40", -3);
        refused(list + "]", "/010", -3);
    }

    private static void wrongPointers() {
        refused("{\"a\":1}", "a", -100);
        refused("{\"a\":1}", "a/a", -100);
        refused("{\"a\":1}", " /a", -100);
        refused("{\"a\":1}", "~", -100);
        refused("{\"a\":1}", "~0", -100);
        refused("{\"a\":1}", "/~", -102);
        refused("{\"a\":1}", "/~2", -102);
        refused("{\"a\":1}", "/~~", -102);
        refused("{\"a\":1}", "/~/", -102);
        refused("{\"a\":1}", "/~ 0", -102);
        refused("{\"a\":1}", "/a~", -103);
        refused("{\"a\":1}", "/a/~", -104);
        refused("{\"a\":1}", "/~0~1~2", -106);
        refused("{\"a\":1}", "/~0~1~", -106);
        refused("{\"a\":1}", "/x/y/z~", -107);
        refused("1", "/a/b/~x/~", -106);
        refused("1", "/" + Checks.times(118, "a") + "~", -220);
    }

    private static void nowhere() {
        refused("{\"a\":1}", "/", -3);
        refused("{\"a\":1}", "/b", -3);
        refused("{\"a\":1}", "/A", -3);
        refused("{\"a\":1}", "/a/", -3);
        refused("{\"a\":1}", "/a/0", -3);
        refused("{\"a\":1}", "//a", -3);
        refused("{\"a\":1}", "/0", -3);
        refused("{\"a/b\":1}", "/a/b", -3);
        refused("{}", "/", -3);
        refused("{}", "/" + Checks.times(119, "x"), -3);
        refused("{}", Checks.times(120, "/"), -3);
        refused("[]", "/0", -3);
        refused("[]", "/-", -3);
        refused("[]", "/", -3);
        String[] rows = {"", "-", "2", "02", "00", "01", "-0", "-1", "+1", " 1", "1 ", "1.0", "a",
            "0a", "10", "4294967296", "4294967297", "18446744073709551616", "2147483648",
            "99999999999", "1:", "1~1", "0x0"};
        for (String row : rows) {
            refused("[1,2]", "/" + row, -3);
        }
        for (String document : new String[] {"null", "true", "false", "5", "\"abc\""}) {
            refused(document, "/", -3);
            refused(document, "/0", -3);
            refused(document, "/-", -3);
        }
    }

    private static void longTexts() {
        String forty = "\"" + Checks.times(40, "\\n") + "\"";
        PatchedDocument d = Checks.documentOf("[" + forty + ",7]");
        String copy = "{\"op\":\"copy\",\"from\":\"/0\",\"path\":\"/-\"}";
        String whole = "[\"" + Checks.times(40, "\\u000a") + "\",7";
        for (int copies = 1; copies <= 45; copies++) {
            CHECKS.due("copy " + copies, Checks.patch(d, "[" + copy + "]"), 1);
            whole += ",\"" + Checks.times(40, "\\u000a") + "\"";
            String text = whole + "]";
            CHECKS.due("write with copies", d.write(), text.length());
            CHECKS.due("the last that is kept", d.written(399), (int) text.charAt(399));
            CHECKS.due("none behind it", d.written(400), -1);
            CHECKS.due("written", Checks.written(d), text.substring(0, 400));
        }
        CHECKS.due("size", d.size(), 48);
        CHECKS.due("write a short one", Checks.write(d, "/1"), 1);
        CHECKS.due("written", Checks.written(d), "7");
    }
}
