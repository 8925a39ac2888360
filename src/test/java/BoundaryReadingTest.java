/** Terms and promise 3: the edges of reading, and where a text is wrong. */
public final class BoundaryReadingTest extends OperationTexts {
    private static final Sentences DOC = new Sentences("reading");
    private static final String FORTY = Checks.times(40, "x");

    public static void main(String[] args) {
        DOC.says("there may be blanks (code 32) at its ends", BoundaryReadingTest::blanksAtTheEnds);
        DOC.says("before and behind each of [ ] { } , :", BoundaryReadingTest::blanksAtMarks);
        DOC.says("there may be blanks (code 32)", "nowhere else", BoundaryReadingTest::noOtherBlanks);
        DOC.says("in a string, any code may stand as \\, u and four digits",
                BoundaryReadingTest::codesInDigits);
        DOC.says("(A .. F, too)", BoundaryReadingTest::upperCaseDigits);
        DOC.says("\\\" \\\\ \\/ \\b \\f \\n \\r \\t stand for the codes 34, 92, 47, 8, 12, 10, 13, 9",
                BoundaryReadingTest::letters);
        DOC.says("\\\" \\\\ \\/ \\b \\f \\n \\r \\t", "no other", BoundaryReadingTest::otherLetters);
        DOC.says("a number may be -0, which is 0", BoundaryReadingTest::minusZero);
        DOC.says("A text is WRONG at the first place (how many characters before it) with whose "
                + "character it does not go on so", BoundaryReadingTest::firstWrongPlace);
        DOC.says("A text is WRONG at the first place", "a value that begins with none of its characters",
                BoundaryReadingTest::everyWrongStart);
        DOC.says("at its end, when it is not at an end there", BoundaryReadingTest::atItsEnd);
        DOC.says("at its end, when it is not at an end there", "an empty one, or blanks alone",
                BoundaryReadingTest::emptyText);
        DOC.says("the first character of a value that would be the 49th",
                BoundaryReadingTest::tooManyValues);
        DOC.says("or deeper in the others than 6 (the whole is at depth 1)", BoundaryReadingTest::tooDeep);
        DOC.says("the tenth digit of a number", BoundaryReadingTest::tenthDigit);
        DOC.says("the first character of what would be the 41st of a string",
                BoundaryReadingTest::fortyFirstCharacter);
        DOC.says("the fourth digit of a code above 127", BoundaryReadingTest::fourthDigit);
        DOC.says("the last \" of a name that its object has already",
                BoundaryReadingTest::nameThatIsThere);
        DOC.says("The document becomes what the buffer is a text of: its size",
                BoundaryReadingTest::sizeAnswered);
        DOC.says("-100 - the place where it is wrong", BoundaryReadingTest::placeAnswered);
        DOC.end();
    }

    private static void blanksAtTheEnds() {
        String[] texts = {"null", "false", "true", "0", "-12", "'a'", "[]", "{}"};
        for (String text : texts) {
            DOC.reads(" " + text, 1, text);
            DOC.reads(text + " ", 1, text);
            DOC.reads("   " + text + "   ", 1, text);
        }
    }

    private static void blanksAtMarks() {
        String text = "{'a':[1,[],{}],'b':{'c':2}}";
        for (int i = 0; i < text.length(); i++) {
            if ("[]{},:".indexOf(text.charAt(i)) >= 0) {
                DOC.reads(text.substring(0, i) + "  " + text.substring(i), 7, text);
                DOC.reads(text.substring(0, i + 1) + "  " + text.substring(i + 1), 7, text);
            }
        }
    }

    private static void noOtherBlanks() {
        DOC.wrong("n ull", 1);
        DOC.wrong("[fals e]", 5);
        DOC.wrong("- 1", 1);
        DOC.wrong("1 2", 2);
        DOC.wrong("[1 2]", 3);
        DOC.wrong("['a' 'b']", 5);
        DOC.wrong("{'a' 'b':1}", 5);
        DOC.wrong("'\\ n'", 2);
        DOC.wrong("'\\u 0041'", 3);
        DOC.wrong("'\\u00 41'", 5);
        DOC.same("' a  b '", 1);
        DOC.same("{' ':1,'  ':2}", 3);
    }

    private static void codesInDigits() {
        for (int code = 0; code < 128; code++) {
            PatchedDocument d = Sentences.make("'" + String.format("\\u%04x", code) + "'");
            DOC.due("look at code " + code, d.look(), 14);
            DOC.due("a test for it", Checks.patch(d, quoted(row(test("", "'" + plain(code) + "'")))), 1);
        }
        DOC.reads("{'\\u0061':1,'\\u0062b':2}", 3, "{'a':1,'bb':2}");
    }

    /** Another way to the code than by lower digits, where there is one. */
    private static String plain(int code) {
        if (code < 32 || code == 127) {
            return String.format("\\u%04X", code);
        }
        if (code == '\'') {
            return "\\u0027";
        }
        return code == '"' || code == '\\' ? "\\" + (char) code : "" + (char) code;
    }

    private static void upperCaseDigits() {
        DOC.reads("'\\u004A\\u004B\\u004C\\u004D\\u004E\\u004F'", 1, "'JKLMNO'");
        DOC.reads("'\\u004a\\u004b\\u004c\\u004d\\u004e\\u004f'", 1, "'JKLMNO'");
        DOC.wrong("'\\U0041'", 2);
        for (char c = 32; c < 127; c++) {
            if ("0123456789abcdefABCDEF".indexOf(c) < 0) {
                DOC.wrong("'\\u" + c + "041'", 3);
                DOC.wrong("'\\u0" + c + "41'", 4);
                DOC.wrong("'\\u00" + c + "1'", 5);
                DOC.wrong("'\\u004" + c + "'", 6);
            }
        }
    }

    private static void letters() {
        String letters = "\"\\/bfnrt";
        int[] codes = {34, 92, 47, 8, 12, 10, 13, 9};
        for (int i = 0; i < codes.length; i++) {
            PatchedDocument d = Checks.documentOf("\"\\" + letters.charAt(i) + "\"");
            DOC.due("look at " + letters.charAt(i), d.look(), 14);
            String test = row(test("", String.format("'\\u%04x'", codes[i])));
            DOC.due("a test for " + codes[i], Checks.patch(d, quoted(test)), 1);
        }
    }

    private static void otherLetters() {
        for (char c = 32; c < 127; c++) {
            if ("\"'\\/bfnrtu".indexOf(c) < 0) {
                DOC.wrong("'\\" + c + "'", 2);
            }
        }
        DOC.due("read \\ before '", Checks.read(new PatchedDocument(), "\"\\'\""), -102);
    }

    private static void minusZero() {
        DOC.reads("-0", 1, "0");
        DOC.reads("[-0,{'a':-0}]", 4, "[0,{'a':0}]");
        DOC.done("-0", test("", "0"), "0");
        DOC.wrong("-00", 2);
        DOC.wrong("-01", 2);
        DOC.wrong("--0", 1);
    }

    private static void firstWrongPlace() {
        DOC.wrong("01", 1);
        DOC.wrong("007", 1);
        DOC.wrong("[0,00]", 4);
        DOC.wrong("1.0", 1);
        DOC.wrong("1e1", 1);
        DOC.wrong("nulL", 3);
        DOC.wrong("nully", 4);
        DOC.wrong("[1,]", 3);
        DOC.wrong("[,1]", 1);
        DOC.wrong("[1}", 2);
        DOC.wrong("[1;2]", 2);
        DOC.wrong("[1:2]", 2);
        DOC.wrong("{,}", 1);
        DOC.wrong("{:1}", 1);
        DOC.wrong("{'a':1,:2}", 7);
        DOC.wrong("{'\\:'", 3);
        DOC.wrong("{'a',1}", 4);
        DOC.wrong("{'a':1,}", 7);
        DOC.wrong("{'a':1]", 6);
        DOC.wrong("{'a':1,2}", 7);
        DOC.wrong("[] []", 3);
        DOC.wrong("{}]", 2);
        DOC.wrong("'a'b", 3);
        DOC.wrong("[1,x,01]", 3);
    }

    private static void everyWrongStart() {
        for (char c = 33; c < 127; c++) {
            if ("\"'[{-0123456789nft".indexOf(c) < 0) {
                DOC.wrong("" + c, 0);
                DOC.wrong("[1," + c, 3);
                DOC.wrong("{'a':" + c, 5);
            }
        }
    }

    private static void atItsEnd() {
        String[] texts = {"null", "false", "true", "-1", "'ab\\n\\u0041'", "[1,[2],{}]",
            "{'a':1,'b':{'c':[null]}}"};
        for (String text : texts) {
            for (int end = 0; end < text.length(); end++) {
                DOC.wrong(text.substring(0, end), end);
                DOC.wrong("[" + text.substring(0, end), end + 1);
            }
        }
        DOC.wrong("[1 ", 3);
        DOC.wrong("{'a' ", 5);
    }

    private static void emptyText() {
        DOC.wrong("", 0);
        DOC.wrong(" ", 1);
        DOC.wrong(Checks.times(120, " "), 120);
    }

    private static void tooManyValues() {
        String fortySeven = Checks.listOf(46, "1").replace("]", "");
        DOC.reads(fortySeven + ",2]", 48, fortySeven + ",2]");
        DOC.wrong(fortySeven + ",2,3]", 95);
        DOC.wrong(fortySeven + ",2,   3]", 98);
        DOC.wrong(fortySeven + ",2,", 95);
        DOC.wrong(fortySeven + ",2,]", 95);
        DOC.wrong(fortySeven + ",2,'", 95);
        DOC.reads(fortySeven + ",[]]", 48, fortySeven + ",[]]");
        DOC.wrong(fortySeven + ",[3]]", 94);
        DOC.wrong(fortySeven + ",{'a':3}]", 98);
        DOC.wrong(fortySeven + ",{'a' 3}]", 98);
        DOC.wrong(fortySeven + ",[],3]", 96);
        DOC.wrong(Checks.listOf(24, "[1]"), 94);
    }

    private static void tooDeep() {
        DOC.same("[[[[[1,2]]]],3]", 8);
        DOC.same("[[[[[[],{}]]]]]", 7);
        DOC.wrong("[[[[[[1]]]]]]", 6);
        DOC.wrong("[[[[[[  1]]]]]]", 8);
        DOC.wrong("[[[[[[x", 6);
        DOC.wrong("[[[[[[", 6);
        DOC.wrong("[[[[[{'a':1}]]]]]", 10);
        DOC.wrong("[[[[[[],[1]]]]]]", 9);
        DOC.wrong("[[[[[1]]]],[[[[[2", 16);
        DOC.wrong("{'a':{'a':{'a':{'a':{'a':{'a':1}}}}}}", 30);
    }

    private static void tenthDigit() {
        DOC.same("123456789", 1);
        DOC.same("-123456789", 1);
        DOC.wrong("1234567891", 9);
        DOC.wrong("-1234567891", 10);
        DOC.wrong("[1,1234567891]", 12);
        DOC.wrong("{'a':1234567891}", 14);
        DOC.wrong("12345678912345678912345678901234567890", 9);
        DOC.wrong("123456789x", 9);
    }

    private static void fortyFirstCharacter() {
        DOC.same("'" + FORTY + "'", 1);
        DOC.wrong("'" + FORTY + "x'", 41);
        DOC.wrong("'" + FORTY + "\\n'", 41);
        DOC.wrong("'" + FORTY + "\\u0041'", 41);
        DOC.wrong("'" + FORTY + "\\z'", 41);
        DOC.wrong("'" + FORTY, 41);
        DOC.wrong("'" + Checks.times(40, "\\n") + "x'", 81);
        DOC.wrong("'" + Checks.times(10, "\\u0041") + Checks.times(30, "x") + "x'", 91);
        DOC.wrong("{'" + FORTY + "x':1}", 42);
        DOC.wrong("{'a':'" + FORTY + "x'}", 46);
    }

    private static void fourthDigit() {
        DOC.same("'\\u007f'", 1);
        String[] codes = {"0080", "0081", "008F", "0090", "00ff", "00FF", "0100", "017f", "0800", "1000",
            "8000", "fFfF"};
        for (String code : codes) {
            DOC.wrong("'\\u" + code + "'", 6);
            DOC.wrong("{'a\\u" + code + "':1}", 8);
        }
        DOC.wrong("'\\u008", 6);
        DOC.wrong("'\\u008'", 6);
        DOC.wrong("'\\u1x00'", 4);
    }

    private static void nameThatIsThere() {
        DOC.wrong("{'a':1,'a':2}", 9);
        DOC.wrong("{'a':1,'a'", 9);
        DOC.wrong("{'a':1, 'a'x", 10);
        DOC.wrong("{'a':1,'b':2,'a':3}", 15);
        DOC.wrong("{'a':1,'b':2,'b':3}", 15);
        DOC.wrong("{'a':1,'\\u0061':2}", 14);
        DOC.wrong("{'':1,'':2}", 7);
        DOC.wrong("{'" + FORTY + "':1,'" + FORTY + "'", 87);
        DOC.wrong("{'b':{'a':1,'a':2}}", 14);
        DOC.wrong("{'a':1,'a", 9);
        DOC.wrong("{'a':1,'b", 9);
        DOC.same("{'a':{'a':{'a':1}}}", 4);
        DOC.same("{'a':1,'aa':2}", 3);
        DOC.same("[{'a':1},{'a':1}]", 5);
    }

    private static void sizeAnswered() {
        PatchedDocument d = Sentences.make("[1,2,3]");
        DOC.due("read null", Checks.read(d, "null"), 1);
        DOC.due("its text", Checks.textOf(d), "null");
        DOC.due("read the greatest", Checks.read(d, Checks.listOf(47, "7")), 48);
        DOC.due("its text", Checks.textOf(d), Checks.listOf(47, "7"));
    }

    private static void placeAnswered() {
        PatchedDocument d = Sentences.make("{'a':[1,2]}");
        DOC.due("read nothing", d.read(), -100);
        DOC.due("read up to the 120th", Checks.read(d, Checks.times(119, " ") + "x"), -219);
        DOC.due("read up to the end", Checks.read(d, Checks.times(119, " ") + "["), -220);
        DOC.due("the document stays", Checks.textOf(d), quoted("{'a':[1,2]}"));
        DOC.due("its size", d.size(), 4);
        DOC.due("its depth", d.depth(), 3);
    }
}
