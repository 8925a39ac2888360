/** Terms and promise 7: the edges of operations, and of rows of them. */
public final class BoundaryOperationsTest extends OperationTexts {
    private static final Sentences DOC = new Sentences("operations");

    public static void main(String[] args) {
        shapes();
        tests();
        removes();
        adds();
        DOC.says("replace (value): the value to which path leads becomes this one, in its place",
                BoundaryOperationsTest::replaces);
        moves();
        copies();
        failures();
        patches();
        DOC.end();
    }

    private static void shapes() {
        DOC.says("OPERATIONS are objects", BoundaryOperationsTest::noObjects);
        DOC.says("what members of other names they have does not matter",
                BoundaryOperationsTest::otherMembers);
        DOC.says("Each has op, a string", BoundaryOperationsTest::op);
        DOC.says("and path, a pointer", BoundaryOperationsTest::path);
        DOC.says("some have value", BoundaryOperationsTest::value);
        DOC.says("some from, a pointer, too", BoundaryOperationsTest::from);
        DOC.says("OPERATIONS are objects", "their members in any order",
                BoundaryOperationsTest::memberOrder);
    }

    private static void tests() {
        DOC.says("test (value): path leads to a value that is alike",
                BoundaryOperationsTest::testsWhereItLeads);
        DOC.says("path leads to a value that is alike", "none of another kind",
                BoundaryOperationsTest::alikeKinds);
        DOC.says("numbers and strings are alike when they are the same",
                BoundaryOperationsTest::alikeSingles);
        DOC.says("lists when their values are, in order", BoundaryOperationsTest::alikeLists);
        DOC.says("objects when they have the same names with values that are alike, in any order",
                BoundaryOperationsTest::alikeObjects);
    }

    private static void removes() {
        DOC.says("remove: the value to which path leads goes", BoundaryOperationsTest::removesValues);
        DOC.says("a member with its name", BoundaryOperationsTest::removesMembers);
        DOC.says("the path is not empty", BoundaryOperationsTest::removesNotTheDocument);
    }

    private static void adds() {
        DOC.says("add (value): if path is empty, the document becomes the value",
                BoundaryOperationsTest::addsAsTheDocument);
        DOC.says("Else path without its last row leads to a list or an object",
                BoundaryOperationsTest::addsToListsOrObjectsAlone);
        DOC.says("In an object, the last row is a name: that member has the value then",
                BoundaryOperationsTest::addsToAMember);
        DOC.says("a new one is the last one", BoundaryOperationsTest::addsANewMember);
        DOC.says("In a list, it is an index, from 0 to as many values as there are",
                BoundaryOperationsTest::addsAtAnIndex);
        DOC.says("or just - , which is as many", BoundaryOperationsTest::addsAtTheEnd);
        DOC.says("the value is put there, those from there on come one behind",
                BoundaryOperationsTest::addsBeforeOthers);
    }

    private static void moves() {
        DOC.says("move (from): from leads to a value", BoundaryOperationsTest::movesWhatIsThere);
        DOC.says("if path is the same, nothing happens", BoundaryOperationsTest::movesToTheSame);
        DOC.says("else from is not empty", BoundaryOperationsTest::movesNotTheDocument);
        DOC.says("and is not the beginning of path with / behind it in path",
                BoundaryOperationsTest::movesNotIntoItself);
        DOC.says("the value is removed there, then added at path",
                BoundaryOperationsTest::movesBehindTheRemoval);
    }

    private static void copies() {
        DOC.says("copy (from): the value to which from leads is added at path",
                BoundaryOperationsTest::copiesAdd);
        DOC.says("copy (from): the value", "the two are apart from then on",
                BoundaryOperationsTest::copiesAreApart);
    }

    private static void failures() {
        DOC.says("or when the document would have a greater size or depth than it may behind it", "size",
                BoundaryOperationsTest::sizeFailures);
        DOC.says("or when the document would have a greater size or depth than it may behind it", "depth",
                BoundaryOperationsTest::depthFailures);
    }

    private static void patches() {
        DOC.says("The buffer is the text of a list of operations: all are done, one after the other",
                BoundaryOperationsTest::oneAfterTheOther);
        DOC.says("how many there are", BoundaryOperationsTest::howMany);
        DOC.says("-100 - the place where it is wrong", BoundaryOperationsTest::wrongTexts);
        DOC.says("BAD when it is no list", BoundaryOperationsTest::noLists);
        DOC.says("-1000 - the number of the first one (from 0) that fails",
                BoundaryOperationsTest::firstThatFails);
        DOC.says("the document stays as it was", BoundaryOperationsTest::staysAsItWas);
    }

    private static void noObjects() {
        String[] others = {"null", "false", "true", "0", "'remove'", "''", "[]",
            "['op','remove','path','/0']", row(remove("/0"))};
        for (String other : others) {
            DOC.fails("[7]", other);
        }
        DOC.fails("[7]", "{}");
    }

    private static void otherMembers() {
        DOC.done("[7]", "{'op':'remove','path':'/0','':1,'x':[{}],'Op':'add'}", "[]");
        DOC.done("[7]", "{'op':'add','path':'/0','value':1,'Value':2,'values':3}", "[1,7]");
        DOC.done("[7]", "{'op':'remove','path':'/0','value':{},'from':5}", "[]");
        DOC.done("[7]", "{'op':'test','path':'/0','value':7,'from':'~'}", "[7]");
        DOC.done("[7]", "{'op':'copy','from':'/0','path':'/0','value':1}", "[7,7]");
    }

    private static void op() {
        String rest = ",'path':'/0','value':7,'from':'/0'}";
        String[] wrong = {"null", "true", "0", "['add']", "{'add':1}", "''", "'Add'", "'ADD'", "' add'",
            "'add '", "'ad'", "'adds'", "'put'", "'\\u0000add'"};
        for (String op : wrong) {
            DOC.fails("[7]", "{'op':" + op + rest);
        }
        DOC.fails("[7]", "{'path':'/0','value':7,'from':'/0'}");
        DOC.done("[7]", "{'op':'\\u0061dd'" + rest, "[7,7]");
    }

    private static void path() {
        String[] ops = {"test", "remove", "add", "replace", "move", "copy"};
        String[] wrong = {"null", "0", "['/0']", "{}", "'0'", "'~'", "'/~'", "'/0~2'", "' /0'"};
        for (String op : ops) {
            String rest = ",'value':7,'from':'/0'}";
            for (String path : wrong) {
                DOC.fails("[7]", "{'op':'" + op + "','path':" + path + rest);
            }
            DOC.fails("[7]", "{'op':'" + op + "'" + rest);
        }
    }

    private static void value() {
        for (String op : new String[] {"test", "add", "replace"}) {
            DOC.fails("[null]", "{'op':'" + op + "','path':'/0'}");
            DOC.fails("[null]", "{'op':'" + op + "','path':'/0','from':'/0'}");
        }
        DOC.done("[null]", test("/0", "null"), "[null]");
        DOC.done("[7]", add("/0", "null"), "[null,7]");
        DOC.done("[7]", replace("/0", "null"), "[null]");
    }

    private static void from() {
        for (String op : new String[] {"move", "copy"}) {
            String start = "{'op':'" + op + "','path':'/0'";
            DOC.fails("[7]", start + "}");
            DOC.fails("[7]", start + ",'value':'/0'}");
            String[] wrong = {"null", "0", "['/0']", "{}", "'0'", "'/0~'", "'/~2'"};
            for (String from : wrong) {
                DOC.fails("[7]", start + ",'from':" + from + "}");
            }
        }
    }

    private static void memberOrder() {
        DOC.done("[7]", "{'value':1,'path':'/0','op':'add'}", "[1,7]");
        DOC.done("[7]", "{'path':'/-','from':'/0','op':'copy'}", "[7,7]");
    }

    private static void testsWhereItLeads() {
        DOC.done("[1,[2]]", test("/1", "[2]"), "[1,[2]]");
        DOC.fails("[1,[2]]", test("/0", "2"));
        DOC.fails("[1,[2]]", test("/2", "null"));
        DOC.fails("[1,[2]]", test("/-", "null"));
        DOC.fails("[1,[2]]", test("/0/0", "1"));
        DOC.fails("{'a':null}", test("/b", "null"));
    }

    private static void alikeKinds() {
        String[] values = {"null", "false", "true", "0", "''", "[]", "{}"};
        for (String one : values) {
            for (String other : values) {
                if (one.equals(other)) {
                    DOC.done(one, test("", other), one);
                } else {
                    DOC.fails(one, test("", other));
                }
            }
        }
    }

    private static void alikeSingles() {
        DOC.done("0", test("", "-0"), "0");
        DOC.done("-999999999", test("", "-999999999"), "-999999999");
        DOC.fails("1", test("", "-1"));
        DOC.fails("999999999", test("", "999999998"));
        DOC.done("'a\\n'", test("", "'\\u0061\\u000A'"), "'a\\u000a'");
        DOC.fails("'a'", test("", "'A'"));
        DOC.fails("'a'", test("", "'a '"));
        DOC.fails("'a'", test("", "'aa'"));
        DOC.fails("'a'", test("", "''"));
        DOC.fails("1", test("", "'1'"));
    }

    private static void alikeLists() {
        DOC.done("[1,[2,{}]]", test("", "[1,[2,{}]]"), "[1,[2,{}]]");
        DOC.fails("[1,2]", test("", "[2,1]"));
        DOC.fails("[1,2]", test("", "[1]"));
        DOC.fails("[1,2]", test("", "[1,2,3]"));
        DOC.fails("[1]", test("", "[]"));
        DOC.fails("[]", test("", "[null]"));
        DOC.fails("[[1],2]", test("", "[1,[2]]"));
        DOC.fails("[1,1]", test("", "[1]"));
    }

    private static void alikeObjects() {
        String document = "{'a':1,'b':{'c':2,'d':[]}}";
        DOC.done(document, test("", "{'b':{'d':[],'c':2},'a':1}"), document);
        DOC.done("{}", test("", "{}"), "{}");
        DOC.fails(document, test("", "{'a':1}"));
        DOC.fails(document, test("", "{'a':1,'b':{'c':2}}"));
        DOC.fails(document, test("", "{'a':1,'b':{'c':2,'d':{}}}"));
        DOC.fails("{'a':1}", test("", "{'a':1,'b':2}"));
        DOC.fails("{'a':1}", test("", "{'b':1}"));
        DOC.fails("{'a':1}", test("", "{'a':2}"));
        DOC.fails("{'a':1,'b':2}", test("", "{'a':2,'b':1}"));
        DOC.fails("{'a':1,'b':1}", test("", "{'a':1,'c':1}"));
        DOC.fails("{'a':1}", test("", "{}"));
    }

    private static void removesValues() {
        DOC.done("[1,2,3]", remove("/0"), "[2,3]");
        DOC.done("[1,2,3]", remove("/2"), "[1,2]");
        DOC.done("[1]", remove("/0"), "[]");
        DOC.done("[[[[[1]]]]]", remove("/0/0/0/0/0"), "[[[[[]]]]]");
        DOC.fails("[1,2,3]", remove("/3"));
        DOC.fails("[1,2,3]", remove("/-"));
        DOC.fails("[1,2,3]", remove("/00"));
        DOC.fails("[]", remove("/0"));
        DOC.fails("[1]", remove("/0/0"));
    }

    private static void removesMembers() {
        DOC.done("{'a':1,'b':2}", remove("/a"), "{'b':2}");
        DOC.done("{'a':1}", remove("/a"), "{}");
        DOC.done("{'':1}", remove("/"), "{}");
        DOC.fails("{'a':1}", remove("/b"));
        DOC.fails("{}", remove("/"));
    }

    private static void removesNotTheDocument() {
        DOC.fails("[1]", remove(""));
        DOC.fails("null", remove(""));
    }

    private static void addsAsTheDocument() {
        DOC.done("[1]", add("", "{'a':[2]}"), "{'a':[2]}");
        DOC.done("null", add("", "null"), "null");
    }

    private static void addsToListsOrObjectsAlone() {
        for (String single : new String[] {"null", "false", "true", "0", "'abc'", "''"}) {
            DOC.fails(single, add("/0", "1"));
            DOC.fails(single, add("/", "1"));
            DOC.fails(single, add("/-", "1"));
            DOC.fails("[" + single + "]", add("/0/0", "1"));
        }
        DOC.fails("[]", add("/0/0", "1"));
        DOC.fails("[[]]", add("/-/0", "1"));
        DOC.fails("[[]]", add("/1/0", "1"));
        DOC.fails("{}", add("/a/b", "1"));
        DOC.fails("{'a':{}}", add("/b/a", "1"));
        DOC.done("[[]]", add("/0/0", "1"), "[[1]]");
    }

    private static void addsToAMember() {
        DOC.done("{'a':1,'b':2}", add("/a", "[3]"), "{'a':[3],'b':2}");
        DOC.done("{'a':1,'b':2}", add("/b", "3"), "{'a':1,'b':3}");
        DOC.done("{'':1}", add("/", "3"), "{'':3}");
    }

    private static void addsANewMember() {
        DOC.done("{}", add("/b", "1"), "{'b':1}");
        DOC.done("{'b':1}", add("/a", "2"), "{'b':1,'a':2}");
        DOC.done("{'b':1}", add("/", "2"), "{'b':1,'':2}");
        DOC.done("{'b':1}", add("/0", "2"), "{'b':1,'0':2}");
        DOC.done("{'b':1}", add("/-", "2"), "{'b':1,'-':2}");
        DOC.done("{'b':1}", add("/01", "2"), "{'b':1,'01':2}");
        String most = Checks.times(39, "n");
        DOC.done("{}", add("/" + most, "1"), "{'" + most + "':1}");
    }

    private static void addsAtAnIndex() {
        DOC.done("[]", add("/0", "9"), "[9]");
        DOC.done("[1,2]", add("/0", "9"), "[9,1,2]");
        DOC.done("[1,2]", add("/2", "9"), "[1,2,9]");
        DOC.fails("[]", add("/1", "9"));
        String[] rows = {"3", "4", "10", "00", "01", "02", "", "-1", "-0", "--", "+1", " 1", "1 ", "a",
            "4294967296", "4294967298", "18446744073709551616"};
        for (String row : rows) {
            DOC.fails("[1,2]", add("/" + row, "9"));
        }
    }

    private static void addsAtTheEnd() {
        DOC.done("[]", add("/-", "9"), "[9]");
        DOC.done("[1,2]", add("/-", "9"), "[1,2,9]");
        DOC.done("[[1],2]", add("/0/-", "9"), "[[1,9],2]");
    }

    private static void addsBeforeOthers() {
        DOC.done("[1,2,3]", add("/1", "9"), "[1,9,2,3]");
        DOC.done("[1,2,3]", add("/2", "[9]"), "[1,2,[9],3]");
    }

    private static void replaces() {
        DOC.done("[1,2,3]", replace("/0", "9"), "[9,2,3]");
        DOC.done("[1,2,3]", replace("/2", "[]"), "[1,2,[]]");
        DOC.done("{'a':1,'b':2}", replace("/a", "9"), "{'a':9,'b':2}");
        DOC.done("{'a':1,'b':2}", replace("/b", "{}"), "{'a':1,'b':{}}");
        DOC.done("[1]", replace("", "'x'"), "'x'");
        DOC.fails("[1]", replace("/1", "9"));
        DOC.fails("[1]", replace("/-", "9"));
        DOC.fails("[1]", replace("/00", "9"));
        DOC.fails("[]", replace("/0", "9"));
        DOC.fails("{'a':1}", replace("/b", "9"));
        DOC.fails("{}", replace("/", "9"));
        DOC.fails("null", replace("/0", "9"));
        DOC.fails("[1]", replace("/0/0", "9"));
    }

    private static void movesWhatIsThere() {
        DOC.fails("[1,2]", move("/2", "/0"));
        DOC.fails("[1,2]", move("/-", "/0"));
        DOC.fails("{'a':1}", move("/b", "/c"));
        DOC.fails("{'a':1}", move("/a/b", "/c"));
    }

    private static void movesToTheSame() {
        DOC.done("[1,2,3]", move("/1", "/1"), "[1,2,3]");
        DOC.done("{'a':1,'b':2}", move("/a", "/a"), "{'a':1,'b':2}");
        DOC.done("{'a/~':1,'b':2}", move("/a~1~0", "/a~1~0"), "{'a/~':1,'b':2}");
        DOC.done("[1,2,3]", move("", ""), "[1,2,3]");
        DOC.done("null", move("", ""), "null");
        DOC.fails("[1,2,3]", move("/3", "/3"));
        DOC.fails("[1,2,3]", move("/-", "/-"));
        DOC.fails("{'a':1}", move("/b", "/b"));
    }

    private static void movesNotTheDocument() {
        DOC.fails("[1]", move("", "/0"));
        DOC.fails("[1]", move("", "/-"));
        DOC.fails("{}", move("", "/a"));
        DOC.fails("null", move("", "/"));
    }

    private static void movesNotIntoItself() {
        DOC.fails("[[1],[2]]", move("/0", "/0/0"));
        DOC.fails("[[1],[2]]", move("/0", "/0/-"));
        DOC.fails("{'a':{'b':{}}}", move("/a", "/a/"));
        DOC.fails("{'a':{'b':{}}}", move("/a", "/a/b"));
        DOC.fails("{'a':{'b':{}}}", move("/a", "/a/b/c"));
        DOC.fails("{'a':{'b':{}}}", move("/a/b", "/a/b/c"));
        DOC.done("{'a':1,'ab':{}}", move("/a", "/ab/c"), "{'ab':{'c':1}}");
        DOC.done("{'a':1,'a/b':{}}", move("/a", "/a~1b/c"), "{'a/b':{'c':1}}");
        DOC.done("{'a':1}", move("/a", "/aa"), "{'aa':1}");
        DOC.done("{'a':{'b':1}}", move("/a/b", "/a"), "{'a':1}");
        DOC.done("[5,1,2,3,4,5,6,7,8,9,10,[]]", move("/1", "/10/0"), "[5,2,3,4,5,6,7,8,9,10,[1]]");
    }

    private static void movesBehindTheRemoval() {
        DOC.done("[1,2,3]", move("/0", "/2"), "[2,3,1]");
        DOC.done("[1,2,3]", move("/0", "/1"), "[2,1,3]");
        DOC.done("[1,2,3]", move("/2", "/0"), "[3,1,2]");
        DOC.done("[1,2,3]", move("/0", "/-"), "[2,3,1]");
        DOC.fails("[1,2,3]", move("/0", "/3"));
        DOC.done("[1]", move("/0", "/-"), "[1]");
        DOC.fails("[1]", move("/0", "/1"));
        DOC.done("[1,2,[3]]", move("/0", "/1/0"), "[2,[1,3]]");
        DOC.fails("[1,2,[3]]", move("/0", "/2/0"));
        DOC.done("{'a':1,'b':2}", move("/a", "/b"), "{'b':1}");
        DOC.done("{'a':1,'b':2}", move("/a", "/c"), "{'b':2,'c':1}");
        DOC.done("{'a':[1,2]}", move("/a/1", ""), "2");
        DOC.fails("{'a':1}", move("/a", "/b/c"));
    }

    private static void copiesAdd() {
        DOC.done("[1,2]", copy("/0", "/2"), "[1,2,1]");
        DOC.done("[1,2]", copy("/0", "/-"), "[1,2,1]");
        DOC.done("[1,2]", copy("/1", "/0"), "[2,1,2]");
        DOC.done("[1,2]", copy("/0", "/0"), "[1,1,2]");
        DOC.done("[[1]]", copy("/0", "/0/0"), "[[[1],1]]");
        DOC.done("[1]", copy("", "/0"), "[[1],1]");
        DOC.done("[1]", copy("", ""), "[1]");
        DOC.done("[[1]]", copy("/0", ""), "[1]");
        DOC.done("{'a':1,'b':2}", copy("/a", "/b"), "{'a':1,'b':1}");
        DOC.done("{'a':1}", copy("/a", "/a"), "{'a':1}");
        DOC.fails("[1,2]", copy("/2", "/0"));
        DOC.fails("[1,2]", copy("/-", "/0"));
        DOC.fails("[1,2]", copy("/0", "/3"));
        DOC.fails("[1,2]", copy("/0", "/0/0"));
        DOC.fails("{'a':1}", copy("/b", "/b"));
    }

    private static void copiesAreApart() {
        DOC.patches("[[1]]", row(copy("/0", "/-"), replace("/0/0", "2")), 2, "[[2],[1]]");
        DOC.patches("[[1]]", row(copy("/0", "/-"), add("/1/-", "2")), 2, "[[1],[1,2]]");
    }

    private static void sizeFailures() {
        String most = Checks.listOf(47, "1");
        DOC.done(Checks.listOf(46, "1"), add("/0", "1"), most);
        DOC.done(most, replace("/46", "2"), most.replace("1]", "2]"));
        DOC.done(most, move("/0", "/46"), most);
        DOC.done(most, add("", "2"), "2");
        DOC.done(most, test("/46", "1"), most);
        DOC.fails(most, add("/-", "1"));
        DOC.fails(most, copy("/46", "/47"));
        DOC.fails(most, replace("/46", "[1]"));
        DOC.fails(most, replace("/46", "{'a':1}"));
        DOC.failsAt(most, row(add("/-", "1"), remove("/0")), 0);
        DOC.patches(most, row(remove("/0"), add("/-", "1")), 2, most);
        String members = "{'a':" + Checks.listOf(45, "1") + ",'b':1}";
        DOC.done(members, copy("/b", "/a"), "{'a':1,'b':1}");
        DOC.fails(members, copy("/a", "/b"));
        DOC.fails(members, copy("/b", "/c"));
    }

    private static void depthFailures() {
        String most = "[[[[[1]]]]]";
        DOC.done(most, replace("/0/0/0/0/0", "{}"), "[[[[[{}]]]]]");
        DOC.done(most, copy("/0", "/1"), "[[[[[1]]]],[[[[1]]]]]");
        DOC.done(most, add("", "[]"), "[]");
        DOC.fails(most, replace("/0/0/0/0/0", "[1]"));
        DOC.fails(most, add("/0/0/0/0/0", "{'a':1}"));
        DOC.fails(most, copy("", "/1"));
        DOC.fails(most, copy("/0", "/0/1"));
        DOC.done("[[],[[[[]]]]]", move("/1", "/0/0"), "[[[[[[]]]]]]");
        DOC.fails("[[],[[[[1]]]]]", move("/1", "/0/0"));
        DOC.failsAt(most, row(copy("", "/1"), remove("/1")), 0);
    }

    private static void oneAfterTheOther() {
        DOC.patches("[]", row(add("/-", "1"), add("/0", "2"), move("/0", "/1")), 3, "[1,2]");
        DOC.patches("{}", row(add("/a", "{}"), add("/a/b", "1"), test("/a/b", "1")), 3, "{'a':{'b':1}}");
    }

    private static void howMany() {
        DOC.patches("[7]", "[]", 0, "[7]");
        DOC.patches("[7]", " [ ] ", 0, "[7]");
        DOC.patches("[7]", row(remove("/0")), 1, "[]");
        DOC.patches("[1,2,3,4]", row(remove("/0"), remove("/0"), remove("/0"), remove("/0")), 4, "[]");
    }

    private static void wrongTexts() {
        DOC.patches("[7]", "", -100, "[7]");
        DOC.patches("[7]", "[" + remove("/0"), -128, "[7]");
        DOC.patches("[7]", row(remove("/0")) + ",", -129, "[7]");
        DOC.patches("[7]", row(add("/0", "01")), -134, "[7]");
        DOC.patches("[7]", row(add("/0", "[[[[1]]]]")), -137, "[7]");
        DOC.patches("[7]", "{'a':1,'a'", -109, "[7]");
    }

    private static void noLists() {
        for (String other : new String[] {"null", "false", "true", "0", "'[]'", "{}", remove("/0")}) {
            DOC.patches("[7]", other, -1, "[7]");
        }
    }

    private static void firstThatFails() {
        DOC.failsAt("[7,8]", row(remove("/2")), 0);
        DOC.failsAt("[7,8]", row(remove("/1"), remove("/1")), 1);
        DOC.failsAt("[7,8]", row(remove("/1"), remove("/0"), remove("/0")), 2);
        DOC.failsAt("[7,8]", row(remove("/2"), remove("/0"), remove("/2")), 0);
        DOC.failsAt("[7,8]", row("1", "2", "3"), 0);
        DOC.failsAt("[7,8]", row(remove("/0"), "{}", "null"), 1);
    }

    private static void staysAsItWas() {
        String document = "{'a':[1,{'b':2}],'c':3}";
        String[] changes = {remove("/a/1/b"), add("/a/1/b", "4"), add("/a/0", "4"), replace("/a", "4"),
            add("", "4"), move("/c", "/a/0"), copy("/a", "/c")};
        for (String change : changes) {
            DOC.failsAt(document, row(change, "1"), 1);
        }
        PatchedDocument d = Sentences.make(document);
        d.write();
        DOC.due("patch", Checks.patch(d, quoted(row(remove("/a"), remove("/a")))), -1001);
        DOC.due("size", d.size(), 6);
        DOC.due("depth", d.depth(), 4);
        DOC.due("what is written", Checks.written(d), quoted(document));
    }
}
