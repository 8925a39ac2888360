/** Terms, promise 4 and promise 5: the edges of texts, and of what is written. */
public final class BoundaryTextTest extends OperationTexts {
    private static final Sentences DOC = new Sentences("texts");

    public static void main(String[] args) {
        DOC.says("THE TEXT of a value: null, false, true", BoundaryTextTest::words);
        DOC.says("a number's digits without leading 0s", BoundaryTextTest::leadingZeros);
        DOC.says("- before them when it is less than 0", BoundaryTextTest::belowZero);
        DOC.says("a string's characters between two \"", BoundaryTextTest::strings);
        DOC.says("a list's values between [ and ], with , between two", BoundaryTextTest::lists);
        DOC.says("an object's members between { and }, with , between two, each a name, as a "
                + "string, then : and the value", BoundaryTextTest::objects);
        DOC.says("In a string, \" and \\ have a \\ before them", BoundaryTextTest::escaped);
        DOC.says("each code below 32 and 127 stands as \\, u and four digits to the base 16",
                BoundaryTextTest::codesInDigits);
        DOC.says("0 .. 9 a .. f", BoundaryTextTest::lowerCaseDigits);
        DOC.says("No blanks.", BoundaryTextTest::noBlanks);
        DOC.says("WRITTEN is the text of the value to which it leads, up to its 400th character",
                BoundaryTextTest::fourHundredth);
        DOC.says("up to its 400th character", "within a code", BoundaryTextTest::cutWithinACode);
        DOC.says("how many characters that text has", BoundaryTextTest::wholeLength);
        DOC.says("what is written stays then", BoundaryTextTest::stays);
        DOC.says("Character i of what is WRITTEN", BoundaryTextTest::characters);
        DOC.says("BAD when there is none", BoundaryTextTest::noneThere);
        DOC.says("BAD when there is none", "behind a shorter text",
                BoundaryTextTest::nothingBehindAShorterOne);
        DOC.says("Character i of what is WRITTEN", "not of what the document is by now",
                BoundaryTextTest::notAView);
        DOC.end();
    }

    private static void words() {
        DOC.writes("null", "", "null");
        DOC.writes("false", "", "false");
        DOC.writes("true", "", "true");
        DOC.writes("[null,false,true]", "/1", "false");
    }

    private static void leadingZeros() {
        String[] numbers = {"0", "1", "9", "10", "19", "90", "99", "100", "101", "1000", "99999999",
            "100000000", "100000001", "999999999"};
        for (String number : numbers) {
            DOC.writes(number, "", number);
            DOC.writes("[" + number + "]", "/0", number);
        }
    }

    private static void belowZero() {
        DOC.writes("-1", "", "-1");
        DOC.writes("-10", "", "-10");
        DOC.writes("-999999999", "", "-999999999");
        DOC.writes("-0", "", "0");
        DOC.writes("0", "", "0");
        DOC.writes("1", "", "1");
    }

    private static void strings() {
        DOC.writes("''", "", "''");
        DOC.writes("' '", "", "' '");
        DOC.writes("'null'", "", "'null'");
        String most = "'" + Checks.times(40, "z") + "'";
        DOC.writes(most, "", most);
    }

    private static void lists() {
        DOC.writes("[]", "", "[]");
        DOC.writes("[1]", "", "[1]");
        DOC.writes("[1,2]", "", "[1,2]");
        DOC.writes("[[],[[]]]", "", "[[],[[]]]");
        DOC.writes(Checks.listOf(47, "0"), "", Checks.listOf(47, "0"));
    }

    private static void objects() {
        DOC.writes("{}", "", "{}");
        DOC.writes("{'':0}", "", "{'':0}");
        DOC.writes("{'b':{},'a':[]}", "", "{'b':{},'a':[]}");
        DOC.writes("{'a':{'b':{'c':1}}}", "/a", "{'b':{'c':1}}");
    }

    private static void escaped() {
        DOC.writes("'\\u0022'", "", "'\\''");
        DOC.writes("'\\u005c'", "", "'\\\\'");
        DOC.writes("'\\'\\\\\\''", "", "'\\'\\\\\\''");
        DOC.writes("{'\\'':1,'\\\\':2}", "", "{'\\'':1,'\\\\':2}");
        DOC.writes("'\\/'", "", "'/'");
        DOC.writes("'\\u0021#[]/'", "", "'!#[]/'");
    }

    private static void codesInDigits() {
        for (int code = 0; code < 32; code++) {
            String digits = String.format("\\u%04x", code);
            DOC.writes("'" + digits + "'", "", "'" + digits + "'");
            DOC.writes("{'" + digits + "':0}", "", "{'" + digits + "':0}");
        }
        DOC.writes("'\\u007f'", "", "'\\u007f'");
        DOC.writes("{'\\u007f':0}", "", "{'\\u007f':0}");
        DOC.writes("'\\u0020'", "", "' '");
        DOC.writes("'\\u007e'", "", "'~'");
        DOC.writes("'\\b\\f\\n\\r\\t'", "", "'\\u0008\\u000c\\u000a\\u000d\\u0009'");
    }

    private static void lowerCaseDigits() {
        DOC.writes("'\\u000A\\u000F\\u001A\\u001F\\u007F'", "", "'\\u000a\\u000f\\u001a\\u001f\\u007f'");
    }

    private static void noBlanks() {
        DOC.writes(" [ 1 , { 'a' : 2 , ' b ' : [ ] } , { } ] ", "", "[1,{'a':2,' b ':[]},{}]");
    }

    /** A document whose text has so many characters: 376 to 416. */
    private static PatchedDocument ofLength(int length) {
        PatchedDocument d = Sentences.make("['" + Checks.times(40, "\\n") + "']");
        for (int i = 0; i < 3; i++) {
            Checks.patch(d, quoted(row(add("/-", "'" + Checks.times(40, "x") + "'"))));
        }
        Checks.patch(d, quoted(row(add("/-", "'" + Checks.times(length - 376, "y") + "'"))));
        return d;
    }

    private static void fourHundredth() {
        DOC.due("kept of 399", kept(399), 399);
        DOC.due("kept of 400", kept(400), 400);
        DOC.due("kept of 401", kept(401), 400);
        DOC.due("kept of 416", kept(416), 400);
        PatchedDocument d = ofLength(400);
        d.write();
        DOC.due("the 399th of 400", d.written(398), (int) '"');
        DOC.due("the 400th of 400", d.written(399), (int) ']');
        d = ofLength(401);
        d.write();
        DOC.due("the 399th of 401", d.written(398), (int) 'y');
        DOC.due("the 400th of 401", d.written(399), (int) '"');
    }

    private static int kept(int length) {
        PatchedDocument d = ofLength(length);
        d.write();
        return Checks.written(d).length();
    }

    /** The 400th character is in turn each of the six of a code. */
    private static void cutWithinACode() {
        String codes = "\"" + Checks.times(40, "\\u000a") + "\"";
        for (int n = 0; n < 6; n++) {
            String first = "\"" + Checks.times(n, "x") + "\"";
            PatchedDocument d = Checks.documentOf("[" + first + ",\"" + Checks.times(40, "\\n") + "\"]");
            Checks.patch(d, quoted(row(copy("/1", "/1"))));
            String text = "[" + first + "," + codes + "," + codes + "]";
            DOC.due("write behind " + n, d.write(), text.length());
            DOC.due("written behind " + n, Checks.written(d), text.substring(0, 400));
        }
    }

    private static void wholeLength() {
        for (int length = 396; length <= 404; length++) {
            DOC.due("write " + length, ofLength(length).write(), length);
        }
        PatchedDocument d = Sentences.make("['" + Checks.times(40, "\\n") + "']");
        for (int i = 0; i < 46; i++) {
            Checks.patch(d, quoted(row(copy("/0", "/-"))));
        }
        DOC.due("write the longest", d.write(), 47 * 243 + 1);
        DOC.due("write one of it", Checks.write(d, "/46"), 242);
    }

    private static void stays() {
        PatchedDocument d = new PatchedDocument();
        DOC.due("nowhere, with nothing written", Checks.write(d, "/a"), -3);
        DOC.due("still nothing", d.written(0), -1);
        DOC.due("no pointer, with nothing written", Checks.write(d, "a"), -100);
        DOC.due("still nothing", d.written(0), -1);
        d.write();
        DOC.due("nowhere", Checks.write(d, "/a"), -3);
        DOC.due("what stays", Checks.written(d), "null");
        DOC.due("no pointer", Checks.write(d, "/~"), -102);
        DOC.due("what stays", Checks.written(d), "null");
    }

    private static void characters() {
        PatchedDocument d = Sentences.make("{'a':[12,true]}");
        String text = quoted("{'a':[12,true]}");
        d.write();
        for (int i = 0; i < text.length(); i++) {
            DOC.due("written(" + i + ")", d.written(i), (int) text.charAt(i));
        }
    }

    private static void noneThere() {
        PatchedDocument d = Sentences.make("7");
        int[] outside = {-1, 1, 2, 255, 256, 399, 400, 401, -256, Integer.MAX_VALUE, Integer.MIN_VALUE};
        DOC.due("written(0) before any write", d.written(0), -1);
        d.write();
        DOC.due("written(0)", d.written(0), (int) '7');
        for (int i : outside) {
            DOC.due("written(" + i + ")", d.written(i), -1);
        }
        d = ofLength(416);
        d.write();
        int[] behind = {400, 401, 415, 416, -1, Integer.MAX_VALUE, Integer.MIN_VALUE};
        for (int i : behind) {
            DOC.due("written(" + i + ") of 416", d.written(i), -1);
        }
    }

    private static void nothingBehindAShorterOne() {
        PatchedDocument d = ofLength(416);
        d.write();
        DOC.due("write an x string", Checks.write(d, "/1"), 42);
        DOC.due("its last", d.written(41), (int) '"');
        DOC.due("none behind it", d.written(42), -1);
        DOC.due("none at the 400th", d.written(399), -1);
    }

    private static void notAView() {
        PatchedDocument d = Sentences.make("[1,2]");
        d.write();
        Checks.read(d, "{}");
        DOC.due("behind a read", Checks.written(d), "[1,2]");
        Checks.patch(d, quoted(row(add("", "null"))));
        DOC.due("behind a patch", Checks.written(d), "[1,2]");
        d.look();
        DOC.due("behind a look", Checks.written(d), "[1,2]");
    }
}
