/** Terms, promise 4 and promise 6: the edges of pointers, and of what is told of a value. */
public final class BoundaryPointersTest extends OperationTexts {
    private static final Sentences DOC = new Sentences("pointers");

    public static void main(String[] args) {
        DOC.says("A POINTER is a string: rows of characters, each with / before it",
                BoundaryPointersTest::rows);
        DOC.says("each with / before it", "not the first one", BoundaryPointersTest::noSlash);
        DOC.says("~1 stands for /", BoundaryPointersTest::slashInARow);
        DOC.says("~0 for ~", BoundaryPointersTest::tildeInARow);
        DOC.says("and there is no ~ otherwise", BoundaryPointersTest::noOtherTilde);
        DOC.says("from an object to the value with this name", BoundaryPointersTest::names);
        DOC.says("from a list to the value with this index (digits without leading 0s; 0 is the "
                + "first one's)", BoundaryPointersTest::indices);
        DOC.says("digits without leading 0s", BoundaryPointersTest::noIndices);
        DOC.says("the value with this index", "there is none", BoundaryPointersTest::indexBehindTheLast);
        DOC.says("or nowhere", BoundaryPointersTest::nowhere);
        DOC.says("The empty one leads to the document.", BoundaryPointersTest::emptyPointer);
        DOC.says("how many characters there are before the first one with which it can not go on",
                BoundaryPointersTest::wrongPlaces);
        DOC.says("at its end, when that is behind ~", BoundaryPointersTest::placeAtTheEnd);
        DOC.says("-100 - the place when it is none", "though its beginning leads nowhere",
                BoundaryPointersTest::wrongBeforeNowhere);
        DOC.says("0 null, 1 false, 2 true, 3 a number, 4 a string, 5 a list, 6 an object",
                BoundaryPointersTest::kinds);
        DOC.says("and 10 times how many characters, values or members that has",
                BoundaryPointersTest::extents);
        DOC.says("-100 - the place, or NOWHERE, likewise", BoundaryPointersTest::likewise);
        DOC.says("The buffer as a pointer: 0 null", "nothing else changes",
                BoundaryPointersTest::leavesAll);
        DOC.end();
    }

    private static void rows() {
        String document = "{'':{'':1,'a':2},'a':{'':3,'b':4}}";
        DOC.writes(document, "/", "{'':1,'a':2}");
        DOC.writes(document, "//", "1");
        DOC.writes(document, "//a", "2");
        DOC.writes(document, "/a/", "3");
        DOC.writes(document, "/a/b", "4");
        DOC.nowhere(document, "/a/b/");
        DOC.nowhere(document, "///");
    }

    private static void noSlash() {
        DOC.noPointer("a", 0);
        DOC.noPointer("a/a", 0);
        DOC.noPointer("0", 0);
        DOC.noPointer("-", 0);
        DOC.noPointer(" ", 0);
        DOC.noPointer(" /a", 0);
        DOC.noPointer("~", 0);
        DOC.noPointer("~1a", 0);
        DOC.noPointer("#/a", 0);
    }

    private static void slashInARow() {
        DOC.writes("{'/':1,'a/b':2,'//':3}", "/~1", "1");
        DOC.writes("{'/':1,'a/b':2,'//':3}", "/a~1b", "2");
        DOC.writes("{'/':1,'a/b':2,'//':3}", "/~1~1", "3");
        DOC.nowhere("{'a':{'b':1}}", "/a~1b");
        DOC.nowhere("{'a/b':1}", "/a/b");
        DOC.done("{}", add("/~1a~1", "1"), "{'/a/':1}");
    }

    private static void tildeInARow() {
        DOC.writes("{'~':1,'~1':2,'~0':3,'a~~b':4}", "/~0", "1");
        DOC.writes("{'~':1,'~1':2,'~0':3,'a~~b':4}", "/~01", "2");
        DOC.writes("{'~':1,'~1':2,'~0':3,'a~~b':4}", "/~00", "3");
        DOC.writes("{'~':1,'~1':2,'~0':3,'a~~b':4}", "/a~0~0b", "4");
        DOC.nowhere("{'/':1}", "/~01");
        DOC.done("{}", add("/~0~01", "1"), "{'~~1':1}");
    }

    private static void noOtherTilde() {
        for (char c = 32; c < 127; c++) {
            if (c != '0' && c != '1' && c != '\'' && c != '"' && c != '\\') {
                DOC.noPointer("/~" + c, 2);
                DOC.noPointer("/a/b~0~" + c + "a", 7);
            }
        }
        DOC.noPointer("/~", 2);
        DOC.noPointer("/a~", 3);
    }

    private static void names() {
        String document = "{'a':1,'':2,'0':3,'-':4,'00':5,'a b':6,'A':7}";
        DOC.writes(document, "/a", "1");
        DOC.writes(document, "/", "2");
        DOC.writes(document, "/0", "3");
        DOC.writes(document, "/-", "4");
        DOC.writes(document, "/00", "5");
        DOC.writes(document, "/a b", "6");
        DOC.writes(document, "/A", "7");
        String most = Checks.times(40, "n");
        DOC.writes("{'" + most + "':1}", "/" + most, "1");
        DOC.nowhere("{'" + most + "':1}", "/" + most + "n");
        DOC.nowhere("{'" + most + "':1}", "/" + most.substring(1));
        DOC.nowhere(document, "/1");
        DOC.nowhere(document, "/aa");
        DOC.nowhere(document, "/a ");
        DOC.nowhere("{}", "/");
    }

    private static void indices() {
        DOC.writes("[7]", "/0", "7");
        DOC.writes("[7,8]", "/1", "8");
        StringBuilder list = new StringBuilder("[0");
        for (int i = 1; i < 40; i++) {
            list.append(',').append(i);
        }
        for (int i = 0; i < 40; i++) {
            DOC.writes(list + "]", "/" + i, "" + i);
        }
        DOC.writes(Checks.listOf(47, "7").replace("7]", "8]"), "/46", "8");
    }

    private static void noIndices() {
        String[] rows = {"", "00", "01", "000", "-", "-0", "-1", "+0", "+1", " 0", "0 ", "1 ", "0.0", "1a",
            "a", "0x1", "1e0", "0~11", "/0", "1:", ":", "~1"};
        for (String row : rows) {
            DOC.nowhere("[7,8]", "/" + row);
        }
    }

    /** Among them those that would come round to 0 or 1. */
    private static void indexBehindTheLast() {
        DOC.nowhere("[]", "/0");
        String[] rows = {"2", "3", "10", "20", "100", "256", "65536", "999999999", "1000000000",
            "2147483647", "2147483648", "4294967295", "4294967296", "4294967297",
            "18446744073709551616", "18446744073709551617", "100000000000000000000000000000"};
        for (String row : rows) {
            DOC.nowhere("[7,8]", "/" + row);
        }
        DOC.nowhere("[7,8]", "/1" + Checks.times(118, "0"));
        DOC.nowhere(Checks.listOf(47, "7"), "/47");
    }

    private static void nowhere() {
        String[] single = {"null", "false", "true", "0", "12", "'abc'", "''", "[]", "{}"};
        String[] rows = {"/", "/0", "/-", "/a", "//"};
        for (String document : single) {
            for (String row : rows) {
                DOC.nowhere(document, row);
                DOC.nowhere("[" + document + "]", "/0" + row);
                DOC.nowhere("{'a':" + document + "}", "/a" + row);
            }
        }
        DOC.nowhere("[1]", Checks.times(120, "/"));
        DOC.nowhere("[[[[[1]]]]]", "/0/0/0/0/0/0");
    }

    private static void emptyPointer() {
        DOC.writes("[1,[2]]", "", "[1,[2]]");
        DOC.looks("[1,[2]]", "", 25);
        DOC.writes("{'':1}", "", "{'':1}");
        DOC.done("[1]", replace("", "2"), "2");
        DOC.done("[1]", test("", "[1]"), "[1]");
    }

    private static void wrongPlaces() {
        DOC.refused("[1]", "0", -100);
        DOC.refused("[1]", "/~a", -102);
        DOC.refused("[1]", "/0~2/~3", -103);
        DOC.refused("[1]", "/a/b/c/~9", -108);
        DOC.refused("[1]", "/" + Checks.times(117, "a") + "~2", -219);
    }

    private static void placeAtTheEnd() {
        DOC.refused("[1]", "/~", -102);
        DOC.refused("[1]", "/0~", -103);
        DOC.refused("[1]", "/~0~", -104);
        DOC.refused("[1]", "/" + Checks.times(118, "a") + "~", -220);
    }

    private static void wrongBeforeNowhere() {
        DOC.refused("null", "/x/~", -104);
        DOC.refused("[1]", "/7/~x", -104);
    }

    private static void kinds() {
        String[] kinds = {"null", "false", "true", "0", "''", "[]", "{}"};
        for (int kind = 0; kind < kinds.length; kind++) {
            DOC.looks(kinds[kind], "", kind);
            DOC.looks("[1," + kinds[kind] + "]", "/1", kind);
        }
        DOC.looks("999999999", "", 3);
        DOC.looks("-999999999", "", 3);
    }

    private static void extents() {
        DOC.looks("'a'", "", 14);
        DOC.looks("'\\u0000\\n\\''", "", 34);
        DOC.looks("'" + Checks.times(40, "\\n") + "'", "", 404);
        DOC.looks("[[1,2]]", "", 15);
        DOC.looks("[[1,2]]", "/0", 25);
        DOC.looks(Checks.listOf(47, "7"), "", 475);
        DOC.looks("{'a':{'b':1,'c':2}}", "", 16);
        DOC.looks("{'a':{'b':1,'c':2}}", "/a", 26);
        StringBuilder members = new StringBuilder("{'a':0");
        for (char name = 'b'; name <= 's'; name++) {
            members.append(",'").append(name).append("':0");
        }
        DOC.looks(members + "}", "", 196);
    }

    private static void likewise() {
        DOC.looks("[1]", "0", -100);
        DOC.looks("[1]", "/~", -102);
        DOC.looks("[1]", "/0~x", -103);
        DOC.looks("[1]", "/" + Checks.times(118, "a") + "~", -220);
        DOC.looks("[1]", "/1", -3);
        DOC.looks("[1]", "/0/0", -3);
        DOC.looks("[1]", "/", -3);
    }

    private static void leavesAll() {
        PatchedDocument d = Sentences.make("[1,2]");
        d.write();
        DOC.due("look", Checks.look(d, "/1"), 3);
        DOC.due("look nowhere", Checks.look(d, "/2"), -3);
        DOC.due("what is written", Checks.written(d), "[1,2]");
        DOC.due("the document", Checks.textOf(d), "[1,2]");
    }
}
