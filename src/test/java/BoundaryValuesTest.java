/** Terms: the edges of values, their size and depth, and the document. */
public final class BoundaryValuesTest extends OperationTexts {
    private static final Sentences DOC = new Sentences("values");

    public static void main(String[] args) {
        DOC.says("a NUMBER -999999999 .. 999999999", BoundaryValuesTest::numbers);
        DOC.says("a STRING, a row of at most 40 characters", BoundaryValuesTest::strings);
        DOC.says("codes 0 .. 127", BoundaryValuesTest::codes);
        DOC.says("a LIST of values in order", BoundaryValuesTest::lists);
        DOC.says("an OBJECT, a row of MEMBERS in order", BoundaryValuesTest::objects);
        DOC.says("each a NAME (a string) with a value", BoundaryValuesTest::names);
        DOC.says("no two names alike", BoundaryValuesTest::twoNamesAlike);
        DOC.says("The SIZE of a value is 1 and those of its values", BoundaryValuesTest::sizes);
        DOC.says("a value with none in it has the DEPTH 1", BoundaryValuesTest::depthOne);
        DOC.says("others one more than the greatest of those in them", BoundaryValuesTest::depthOfOthers);
        DOC.says("THE DOCUMENT is a value (null at first)", BoundaryValuesTest::nullAtFirst);
        DOC.says("It has the size 48 at most", BoundaryValuesTest::greatestSize);
        DOC.says("and the depth 6 at most", BoundaryValuesTest::greatestDepth);
        DOC.end();
    }

    private static void numbers() {
        DOC.same("0", 1);
        DOC.same("999999999", 1);
        DOC.same("-999999999", 1);
        DOC.same("[999999999,-999999999]", 3);
        DOC.wrong("1000000000", 9);
        DOC.wrong("-1000000000", 10);
        DOC.wrong("9999999990", 9);
        // these would come round to small numbers
        DOC.wrong("4294967296", 9);
        DOC.wrong("-4294967297", 10);
    }

    private static void strings() {
        DOC.same("''", 1);
        DOC.looks("''", "", 4);
        String most = "'" + Checks.times(40, "s") + "'";
        DOC.same(most, 1);
        DOC.looks(most, "", 404);
        DOC.wrong("'" + Checks.times(41, "s") + "'", 41);
        DOC.done("[]", add("/0", most), "[" + most + "]");
    }

    private static void codes() {
        DOC.same("'\\u0000'", 1);
        DOC.same("'\\u007f'", 1);
        DOC.looks("'\\u0000\\u007f'", "", 24);
        DOC.wrong("'\\u0080'", 6);
    }

    private static void lists() {
        DOC.same("[]", 1);
        DOC.same("[1]", 2);
        DOC.same("[2,1,2]", 4);
        DOC.same("[null,false,true,0,'',[],{}]", 8);
        DOC.looks("[]", "", 5);
    }

    private static void objects() {
        DOC.same("{}", 1);
        DOC.same("{'a':1}", 2);
        DOC.same("{'b':1,'a':2,'c':1}", 4);
        DOC.looks("{}", "", 6);
    }

    private static void names() {
        String forty = Checks.times(40, "n");
        DOC.same("{'':1}", 2);
        DOC.same("{'" + forty + "':1}", 2);
        DOC.same("{'\\u0000\\u007f':1}", 2);
        DOC.wrong("{'" + forty + "n':1}", 42);
        DOC.wrong("{'\\u0080':1}", 7);
        DOC.wrong("{null:1}", 1);
        DOC.wrong("{1:1}", 1);
        DOC.wrong("{[]:1}", 1);
        DOC.wrong("{'a'}", 4);
        DOC.wrong("{'a':}", 5);
    }

    private static void twoNamesAlike() {
        DOC.wrong("{'a':1,'a':1}", 9);
        DOC.wrong("{'':1,'':2}", 7);
        DOC.same("{'a':1,'A':2,'aa':3,'a ':4,'':5}", 6);
        DOC.same("{'a':{'a':1},'b':{'a':2}}", 5);
        DOC.done("{'a':1,'b':2}", add("/a", "3"), "{'a':3,'b':2}");
        DOC.done("{'a':1,'b':2}", copy("/a", "/b"), "{'a':1,'b':1}");
        DOC.done("{'a':1,'b':2}", move("/b", "/a"), "{'a':2}");
    }

    private static void sized(String document, int size) {
        DOC.due("size of " + document, Sentences.make(document).size(), size);
    }

    private static void sizes() {
        String[] single = {"null", "false", "true", "0", "-999999999", "''", "'abc'", "[]", "{}"};
        for (String value : single) {
            sized(value, 1);
            sized("[" + value + "]", 2);
            sized("{'a':" + value + "}", 2);
        }
        sized("[[],[],[]]", 4);
        sized("[[1,[2]],{'a':{'b':[3,4]}}]", 10);
    }

    private static void deep(String document, int depth) {
        DOC.due("depth of " + document, Sentences.make(document).depth(), depth);
    }

    private static void depthOne() {
        String[] single = {"null", "false", "true", "0", "''", "'[[1]]'", "[]", "{}"};
        for (String value : single) {
            deep(value, 1);
        }
    }

    private static void depthOfOthers() {
        deep("[1]", 2);
        deep("[[]]", 2);
        deep("{'a':{}}", 2);
        deep("[[[]],1,[]]", 3);
        deep("[1,[[]],[]]", 3);
        deep("[1,[],[[]]]", 3);
        deep("{'a':[[1]],'b':[1],'c':1}", 4);
        deep("{'a':1,'b':[1],'c':[[1]]}", 4);
        deep("[[[[[1]]]]]", 6);
    }

    private static void nullAtFirst() {
        PatchedDocument d = new PatchedDocument();
        DOC.due("look", d.look(), 0);
        DOC.due("the text", Checks.textOf(d), "null");
        DOC.due("a test for null", Checks.patch(d, quoted(row(test("", "null")))), 1);
    }

    /** As many values as there may be, in a list, deeper in, and as members. */
    private static void greatestSize() {
        String most = Checks.listOf(47, "1");
        String deepMost = "[[" + Checks.listOf(45, "1") + "]]";
        DOC.same(most, 48);
        DOC.same(deepMost, 48);
        DOC.wrong(Checks.listOf(48, "1"), 95);
        DOC.wrong("[[" + Checks.listOf(46, "1") + "]]", 93);
        DOC.done(Checks.listOf(46, "1"), add("/46", "1"), most);
        DOC.fails(most, add("/47", "1"));
        DOC.fails(deepMost, add("/-", "1"));
        DOC.fails(deepMost, add("/0/0/-", "1"));
        DOC.done(Checks.listOf(45, "1"), copy("/0", "/-"), Checks.listOf(46, "1"));
        DOC.fails(Checks.listOf(24, "1"), copy("", "/-"));
        DOC.due("the size of the fullest copy", fullestCopy(), 48);
    }

    private static int fullestCopy() {
        PatchedDocument d = Sentences.make(Checks.listOf(23, "1"));
        Checks.patch(d, quoted(row(copy("", "/-"))));
        return d.size();
    }

    private static void greatestDepth() {
        DOC.same("[[[[[[]]]]]]", 6);
        DOC.same("[[[[[1]]]]]", 6);
        DOC.same("{'a':{'a':{'a':{'a':{'a':{}}}}}}", 6);
        DOC.wrong("[[[[[[1]]]]]]", 6);
        DOC.wrong("[[[[[[[]]]]]]]", 6);
        DOC.done("[[[[[]]]]]", add("/0/0/0/0/0", "[]"), "[[[[[[]]]]]]");
        DOC.fails("[[[[[]]]]]", add("/0/0/0/0/0", "[1]"));
        DOC.fails("[[[[[[]]]]]]", add("/0/0/0/0/0/0", "1"));
        DOC.done("[[[]]]", copy("", "/0/0/0"), "[[[[[[]]]]]]");
        DOC.fails("[[[1]]]", copy("", "/0/0/0"));
    }
}
