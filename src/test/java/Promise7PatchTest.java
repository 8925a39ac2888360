/** Promise 7: a list of operations is done, all of them or none. */
public final class Promise7PatchTest extends OperationTexts {
    private static final Checks CHECKS = new Checks("promise 7");

    public static void main(String[] args) {
        texts();
        shapes();
        tests();
        alike();
        removes();
        adds();
        replaces();
        moves();
        copies();
        pointers();
        rows();
        sizes();
        depths();
        allOrNone();
        CHECKS.end();
    }

    private static void done(String before, String operation, String behind) {
        CHECKS.patched(quoted(before), quoted("[" + operation + "]"), 1, quoted(behind));
    }

    private static void fails(String before, String operation) {
        CHECKS.failing(quoted(before), quoted("[" + operation + "]"), 0);
    }

    private static void answers(String text, int answer) {
        CHECKS.patched("[7]", quoted(text), answer, "[7]");
    }

    private static void texts() {
        answers("", -100);
        answers("  ", -102);
        answers("[", -101);
        answers("[}", -101);
        answers("[] 1", -103);
        answers("[{'op':'add','op':'add'}]", -116);
        answers("[{'op':'add','path':'','value':01}]", -132);
        answers("[{'op':'add','path':'','value':1}", -133);
        answers("[[[[[[[]]]]]]]", -106);
        answers("[{'op':'add','path':'','value':[[[[1]]]]}]", -135);
        answers(Checks.listOf(48, "1"), -195);
        answers("null", -1);
        answers("true", -1);
        answers("5", -1);
        answers("'[]'", -1);
        answers("{}", -1);
        answers("{'op':'add','path':'','value':1}", -1);
        answers("[]", 0);
        answers(" [ ] ", 0);
        CHECKS.patched("[7]", quoted(" [ { 'op' : 'add' , 'path' : '/0' , 'value' : 1 } ] "), 1, "[1,7]");
        done("[7]", "{'\\u006fp':'\\u0061dd','path':'\\/0','value':1}", "[1,7]");
        done("[7]", "{'value':1,'path':'/-','op':'add'}", "[7,1]");
    }

    private static void shapes() {
        String[] none = {"1", "null", "'add'", "[]", "{}", "['op','path']",
            "{'op':'add'}", "{'path':''}", "{'value':1}", "{'op':'add','value':1}",
            "{'path':'','value':1}", "{'op':1,'path':'','value':1}",
            "{'op':null,'path':'','value':1}", "{'op':['add'],'path':'','value':1}",
            "{'op':'add','path':1,'value':1}", "{'op':'add','path':null,'value':1}",
            "{'op':'add','path':['/0'],'value':1}", "{'op':'','path':'','value':1}",
            "{'op':'Add','path':'','value':1}", "{'op':'add ','path':'','value':1}",
            "{'op':'put','path':'','value':1,'from':''}", "{'Op':'add','path':'','value':1}",
            "{'op':'add','Path':'','value':1}", "{'op':'add','path':'','Value':1}",
            "{'op':'add','path':''}", "{'op':'add','path':'','from':'/0'}",
            "{'op':'replace','path':'/0'}", "{'op':'test','path':'/0'}",
            "{'op':'copy','path':'/0'}", "{'op':'move','path':'/0'}",
            "{'op':'copy','path':'/0','value':1}", "{'op':'move','path':'/0','value':'/0'}",
            "{'op':'copy','path':'/0','from':0}", "{'op':'move','path':'/0','from':null}",
            "{'op':'move','path':0,'from':'/0'}", "{'op':'remove','from':'/0'}"};
        for (String operation : none) {
            fails("[7]", operation);
        }
        done("[7]", "{'op':'add','path':'/0','value':1,'from':5,'x':[],'':{}}", "[1,7]");
        done("[7]", "{'op':'remove','path':'/0','value':1,'from':'~'}", "[]");
        done("[7]", "{'op':'copy','from':'/0','path':'/0','value':8}", "[7,7]");
        done("[7]", "{'op':'test','path':'','value':[7],'from':'x'}", "[7]");
    }

    private static void tests() {
        String document = "{'a':[1,'x',null],'b':{'c':true}}";
        done(document, test("/a/0", "1"), document);
        done(document, test("/a/1", "'x'"), document);
        done(document, test("/a/2", "null"), document);
        done(document, test("/a", "[1,'x',null]"), document);
        done(document, test("/b", "{'c':true}"), document);
        done(document, test("", "{'b':{'c':true},'a':[1,'x',null]}"), document);
        fails(document, test("/a/0", "2"));
        fails(document, test("/a/3", "null"));
        fails(document, test("/a/-", "null"));
        fails(document, test("/c", "null"));
        fails(document, test("/b/c/d", "null"));
        fails(document, test("", "null"));
    }

    /** Each value is alike to itself, and to none of the others. */
    private static void alike() {
        String[] values = {"null", "false", "true", "0", "1", "-1", "''", "'a'", "'A'", "'ab'", "'0'",
            "'null'", "[]", "{}", "[0]", "[null]", "[[]]", "[{}]", "{'a':0}", "{'b':0}", "{'a':1}",
            "{'a':null}", "[1,2]", "[2,1]", "[1]", "[1,2,3]", "[1,1]", "{'a':0,'b':0}",
            "{'a':0,'b':1}", "{'a':1,'b':0}", "{'a':0,'c':0}", "[[1],2]", "[1,[2]]",
            "{'':[{'a':1}]}", "{'':[{'a':2}]}", "[0,'0']", "{'0':0}"};
        for (String one : values) {
            for (String other : values) {
                if (one.equals(other)) {
                    done("[" + one + "]", test("/0", other), "[" + one + "]");
                } else {
                    fails("[" + one + "]", test("/0", other));
                }
            }
        }
        done("{'a':1,'b':[{'c':1,'d':2}]}", test("", "{'b':[{'d':2,'c':1}],'a':1}"),
                "{'a':1,'b':[{'c':1,'d':2}]}");
        done("0", test("", "-0"), "0");
        done("'a/'", test("", "'\\u0061\\/'"), "'a/'");
    }

    private static void removes() {
        done("[1,2,3]", remove("/0"), "[2,3]");
        done("[1,2,3]", remove("/1"), "[1,3]");
        done("[1,2,3]", remove("/2"), "[1,2]");
        done("[1]", remove("/0"), "[]");
        done("{'a':1,'b':2,'c':3}", remove("/a"), "{'b':2,'c':3}");
        done("{'a':1,'b':2,'c':3}", remove("/b"), "{'a':1,'c':3}");
        done("{'a':1}", remove("/a"), "{}");
        done("{'':1}", remove("/"), "{}");
        done("{'-':1}", remove("/-"), "{}");
        done("{'a':[1,{'b':[2,3]}]}", remove("/a/1/b/0"), "{'a':[1,{'b':[3]}]}");
        done("{'a':[1,{'b':[2,3]}]}", remove("/a"), "{}");
        fails("[1,2,3]", remove(""));
        fails("[1,2,3]", remove("/3"));
        fails("[1,2,3]", remove("/-"));
        fails("[1,2,3]", remove("/01"));
        fails("[1,2,3]", remove("/"));
        fails("[1,2,3]", remove("/0/0"));
        fails("{'a':1}", remove("/b"));
        fails("{'a':1}", remove("/a/b"));
        fails("{'a':1}", remove("/b/a"));
        fails("null", remove(""));
        fails("null", remove("/"));
        fails("'abc'", remove("/0"));
    }

    private static void adds() {
        done("[1,2]", add("", "{'x':[null]}"), "{'x':[null]}");
        done("null", add("", "5"), "5");
        done("[1,2]", add("/0", "9"), "[9,1,2]");
        done("[1,2]", add("/1", "9"), "[1,9,2]");
        done("[1,2]", add("/2", "9"), "[1,2,9]");
        done("[1,2]", add("/-", "9"), "[1,2,9]");
        done("[]", add("/0", "null"), "[null]");
        done("[]", add("/-", "[[]]"), "[[[]]]");
        done("{}", add("/a", "1"), "{'a':1}");
        done("{}", add("/", "1"), "{'':1}");
        done("{}", add("/-", "1"), "{'-':1}");
        done("{}", add("/01", "1"), "{'01':1}");
        done("{}", add("/a~1~0b", "1"), "{'a/~b':1}");
        done("{}", add("/\\n\\u007f", "1"), "{'\\u000a\\u007f':1}");
        done("{'a':1,'b':2}", add("/a", "{}"), "{'a':{},'b':2}");
        done("{'a':1,'b':2}", add("/b", "3"), "{'a':1,'b':3}");
        done("{'b':1}", add("/a", "3"), "{'b':1,'a':3}");
        done("{'a':[1,{'b':[]}]}", add("/a/1/b/-", "7"), "{'a':[1,{'b':[7]}]}");
        done("[{'a':1},2]", add("/0/b", "{'c':3}"), "[{'a':1,'b':{'c':3}},2]");
        done("[[1],2]", add("/0/1", "'s'"), "[[1,'s'],2]");
        done("{}", add("/" + Checks.times(39, "n"), "1"), "{'" + Checks.times(39, "n") + "':1}");
        String[] rows = {"3", "02", "00", "", "-1", "--", "-0", "+0", " 0", "0 ", "a", "4294967296",
            "99999999999999999999", "1/-", "1/0", "-/0", "2/0"};
        for (String row : rows) {
            fails("[1,2]", add("/" + row, "9"));
        }
        fails("{'a':1}", add("/a/b", "1"));
        fails("{'a':1}", add("/b/a", "1"));
        fails("null", add("/a", "1"));
        fails("'abc'", add("/0", "1"));
        fails("5", add("/-", "1"));
    }

    private static void replaces() {
        done("[1,2]", replace("", "{}"), "{}");
        done("[1,2,3]", replace("/0", "[9]"), "[[9],2,3]");
        done("[1,2,3]", replace("/2", "null"), "[1,2,null]");
        done("{'a':1,'b':2}", replace("/a", "3"), "{'a':3,'b':2}");
        done("{'a':1,'b':2}", replace("/b", "[]"), "{'a':1,'b':[]}");
        done("{'a':{'b':[1,{'c':2}]},'d':3}", replace("/a/b/1/c", "4"),
                "{'a':{'b':[1,{'c':4}]},'d':3}");
        done("{'':1}", replace("/", "2"), "{'':2}");
        fails("[1,2]", replace("/2", "3"));
        fails("[1,2]", replace("/-", "3"));
        fails("[1,2]", replace("/00", "3"));
        fails("{'a':1}", replace("/b", "3"));
        fails("{'a':1}", replace("/a/b", "3"));
        fails("{}", replace("/", "3"));
        fails("null", replace("/a", "3"));
    }

    private static void moves() {
        done("[1,2,3]", move("/0", "/2"), "[2,3,1]");
        done("[1,2,3]", move("/0", "/1"), "[2,1,3]");
        done("[1,2,3]", move("/2", "/0"), "[3,1,2]");
        done("[1,2,3]", move("/0", "/-"), "[2,3,1]");
        done("[1,2,3]", move("/1", "/1"), "[1,2,3]");
        done("{'a':1,'b':2}", move("/a", "/c"), "{'b':2,'c':1}");
        done("{'a':1,'b':2}", move("/a", "/b"), "{'b':1}");
        done("{'a':1,'b':2,'c':3}", move("/c", "/a"), "{'a':3,'b':2}");
        done("{'a':1,'b':2}", move("/a", "/a"), "{'a':1,'b':2}");
        done("{'a':{'b':1},'c':[2]}", move("/a/b", "/c/0"), "{'a':{},'c':[1,2]}");
        done("{'a':{'b':1},'c':[2]}", move("/a/b", ""), "1");
        done("{'a':{'b':1}}", move("/a/b", "/a"), "{'a':1}");
        done("{'a':{'b':1}}", move("", ""), "{'a':{'b':1}}");
        done("{'a':1,'ab':{}}", move("/a", "/ab/c"), "{'ab':{'c':1}}");
        fails("[[1],[2]]", move("/0", "/0/0"));
        done("[[1],[2]]", move("/1", "/0/0"), "[[[2],1]]");
        done("[[0],1,2,3,4,5,6,7,8,9,[10]]", move("/1", "/10"), "[[0],2,3,4,5,6,7,8,9,[10],1]");
        done("[[0],1,2,3,4,5,6,7,8,9,10,[11]]", move("/1", "/10/0"),
                "[[0],2,3,4,5,6,7,8,9,10,[1,11]]");
        done("{'a/b':1}", move("/a~1b", "/c~0d"), "{'c~d':1}");
        done("{'a':{},'a/b':{}}", move("/a", "/a~1b/c"), "{'a/b':{'c':{}}}");
        fails("[1,2,3]", move("/0", "/3"));
        fails("[1,2,3]", move("/3", "/0"));
        fails("[1,2,3]", move("/3", "/3"));
        fails("[1,2,3]", move("/-", "/-"));
        fails("[1,2,3]", move("", "/0"));
        fails("[1,2,3]", move("", "/-"));
        fails("{'a':{'b':1}}", move("", "/a"));
        fails("{'a':{'b':1}}", move("", "/c"));
        fails("{'a':{'b':1}}", move("/a", "/a/b"));
        fails("{'a':{'b':1}}", move("/a", "/a/c"));
        fails("{'a':{'b':1}}", move("/a", "/a/"));
        fails("{'a':{'b':1}}", move("/a", "/c/d"));
        fails("{'a':{'b':1}}", move("/c", "/a"));
        fails("{'a':{'b':1}}", move("/c", "/c"));
        fails("[[],[[]]]", move("/0", "/1/0/0"));
        fails("{'a':1}", move("a", "a"));
        fails("{'a':1}", move("/a", "a"));
        fails("{'a':1}", move("/a~", "/a~"));
    }

    private static void copies() {
        done("[1,[2]]", copy("/1", "/0"), "[[2],1,[2]]");
        done("[1,[2]]", copy("/1", "/1/0"), "[1,[[2],2]]");
        done("[1,[2]]", copy("/0", "/-"), "[1,[2],1]");
        done("[1,[2]]", copy("/1", "/2"), "[1,[2],[2]]");
        done("[1,[2]]", copy("", "/-"), "[1,[2],[1,[2]]]");
        done("[1,[2]]", copy("/1", ""), "[2]");
        done("[1,[2]]", copy("", ""), "[1,[2]]");
        done("{'a':{'b':1}}", copy("/a", "/a/b"), "{'a':{'b':{'b':1}}}");
        done("{'a':{'b':1}}", copy("/a", "/a"), "{'a':{'b':1}}");
        done("{'a':1,'b':2}", copy("/b", "/a"), "{'a':2,'b':2}");
        done("{'a':1,'b':2}", copy("", "/a"), "{'a':{'a':1,'b':2},'b':2}");
        fails("[1,[2]]", copy("/2", "/0"));
        fails("[1,[2]]", copy("/-", "/0"));
        fails("[1,[2]]", copy("/0", "/3"));
        fails("[1,[2]]", copy("/0", "/0/0"));
        fails("[1,[2]]", copy("0", "/0"));
        fails("[1,[2]]", copy("/0", "0"));
        copiesAreApart();
    }

    private static void copiesAreApart() {
        PatchedDocument d = Checks.documentOf(quoted("{'a':[1,{'x':2}]}"));
        Checks.patch(d, quoted("[" + copy("/a", "/b") + "]"));
        Checks.patch(d, quoted("[" + replace("/b/1/x", "3") + "," + remove("/a/0") + "]"));
        CHECKS.due("one of two changed", Checks.textOf(d), quoted("{'a':[{'x':2}],'b':[1,{'x':3}]}"));
    }

    private static void pointers() {
        for (String wrong : new String[] {"a", "a/b", "~", "/~", "/a~", "/~2", "/~~0", "/a/~/b", " "}) {
            fails("{'a':1}", test(wrong, "1"));
            fails("{'a':1}", remove(wrong));
            fails("{'a':1}", add(wrong, "1"));
            fails("{'a':1}", replace(wrong, "1"));
            fails("{'a':1}", copy(wrong, "/b"));
            fails("{'a':1}", move("/a", wrong));
        }
        done("{'~':1,'/':2}", remove("/~0"), "{'/':2}");
        done("{'~':1,'/':2}", remove("/~1"), "{'~':1}");
        done("{'~1':1,'/':2}", remove("/~01"), "{'/':2}");
    }

    private static void rows() {
        CHECKS.patched("[]", quoted("[" + add("/-", "1") + "," + add("/0", "2") + "," + remove("/1") + "]"),
                3, "[2]");
        CHECKS.patched("{}", quoted("[" + add("/a", "[]") + "," + add("/a/-", "1") + ","
                + copy("/a", "/b") + "]"), 3, quoted("{'a':[1],'b':[1]}"));
        CHECKS.patched("[1,2,3,4]", quoted("[" + remove("/0") + "," + remove("/0") + "," + remove("/0")
                + "," + remove("/0") + "]"), 4, "[]");
        CHECKS.failing("[1,2,3]", quoted("[" + remove("/0") + "," + remove("/0") + "," + remove("/0")
                + "," + remove("/0") + "]"), 3);
    }

    private static void sizes() {
        String most = Checks.listOf(47, "1");
        fails(most, add("/-", "1"));
        fails(most, add("/0", "[]"));
        fails(most, copy("/0", "/0"));
        fails(most, replace("/0", "[1]"));
        fails(most, copy("", "/-"));
        done(most, replace("/0", "[]"), most.replaceFirst("1", "[]"));
        done(most, move("/0", "/-"), most);
        done(most, copy("", ""), most);
        done(most, add("", "[1,2]"), "[1,2]");
        done(Checks.listOf(46, "1"), add("/-", "1"), most);
        done(Checks.listOf(46, "1"), replace("/45", "[1]"), most.replaceAll("1,1]", "[1]]"));
        fails(Checks.listOf(46, "1"), add("/-", "[1]"));
        CHECKS.failing(most, quoted("[" + add("/-", "1") + "," + remove("/0") + "]"), 0);
        CHECKS.patched(most, quoted("[" + remove("/0") + "," + add("/-", "1") + "]"), 2, most);
        CHECKS.failing(most, quoted("[" + remove("/0") + "," + add("/-", "1") + "," + add("/-", "1") + "]"), 2);
        membersInPlace();
    }

    /** A member that is written over counts no longer. */
    private static void membersInPlace() {
        String inner = Checks.listOf(23, "1");
        String document = "{'a':" + inner + ",'b':" + Checks.listOf(22, "1") + "}";
        CHECKS.due("size", Checks.documentOf(quoted(document)).size(), 48);
        done(document, copy("/b", "/a"), document.replace(inner, Checks.listOf(22, "1")));
        fails(document, copy("/a", "/b"));
        fails(document, copy("/b/0", "/c"));
        done(document, move("/a", "/b"), "{'b':" + inner + "}");
        done(document, add("/a", "[[],[]]"), document.replace(inner, "[[],[]]"));
    }

    private static void depths() {
        String most = "[[[[[1]]]]]";
        fails(most, add("/0/0/0/0/0", "[1]"));
        fails(most, replace("/0/0/0/0/0", "[1]"));
        fails(most, add("/0/0/0/0/-", "{'a':1}"));
        fails(most, copy("", "/0"));
        fails(most, copy("/0", "/0/0"));
        done(most, replace("/0/0/0/0/0", "[]"), "[[[[[[]]]]]]");
        done(most, add("/0/0/0/0/-", "{}"), "[[[[[1,{}]]]]]");
        done(most, copy("/0", "/0"), "[[[[[1]]]],[[[[1]]]]]");
        fails("[[[[[[]]]]]]", add("/0/0/0/0/0/0", "1"));
        fails("[[[[[{}]]]]]", add("/0/0/0/0/0/a", "1"));
        fails("[[[[[]]]],[[[[[]]]]]]", move("/0", "/1/0"));
        done("[[],[[[[]]]]]", move("/1", "/0/0"), "[[[[[[]]]]]]");
        fails("[[],[[[[1]]]]]", move("/1", "/0/0"));
        CHECKS.failing(most, quoted("[" + copy("", "/0") + "," + remove("/0") + "]"), 0);
    }

    private static void allOrNone() {
        String document = quoted("{'a':[1,2],'b':3}");
        CHECKS.failing(document, quoted("[" + remove("/b") + "," + test("/a/0", "2") + "]"), 1);
        CHECKS.failing(document, quoted("[" + add("/a/0", "0") + "," + remove("/c") + "]"), 1);
        CHECKS.failing(document, quoted("[" + add("", "1") + "," + add("/a", "1") + "]"), 1);
        CHECKS.failing(document, quoted("[" + move("/a", "/c") + "," + remove("/a") + "]"), 1);
        CHECKS.failing(document, quoted("[" + replace("/a/1", "4") + ",7]"), 1);
        CHECKS.failing(document, quoted("[7," + replace("/a/1", "4") + "]"), 0);
        CHECKS.failing(document, quoted("[" + test("/b", "3") + "," + remove("/a") + ",null," + remove("") + "]"), 2);
        PatchedDocument d = Checks.documentOf(document);
        d.write();
        Checks.patch(d, quoted("[" + remove("/b") + "," + remove("/b") + "]"));
        CHECKS.due("size behind a failure", d.size(), 5);
        CHECKS.due("depth behind a failure", d.depth(), 3);
        CHECKS.due("written behind a failure", Checks.written(d), document);
        CHECKS.due("a patch behind a failure", Checks.patch(d, quoted("[" + remove("/b") + "]")), 1);
        CHECKS.due("its text", Checks.textOf(d), quoted("{'a':[1,2]}"));
    }
}
