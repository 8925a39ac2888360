/** What the tests share: answers held against those that are due, and texts typed whole. */
class Checks {
    private final String test;
    private int made;
    private int wrong;

    Checks(String test) {
        this.test = test;
    }

    void due(String call, Object got, Object want) {
        made++;
        if (!want.equals(got)) {
            wrong++;
            System.out.println(test + ": " + call + " answered " + got + ", due is " + want);
        }
    }

    void end() {
        System.out.println(test + ": " + made + " answers, " + wrong + " of them wrong");
        if (wrong != 0 || made == 0) {
            System.exit(1);
        }
    }

    /** Does the operations on a new document, and looks at its text and size behind them. */
    void patched(String before, String operations, int answer, String behind) {
        PatchedDocument document = documentOf(before);
        String call = before + " patched by " + operations;
        due(call, patch(document, operations), answer);
        due("the text of " + call, textOf(document), behind);
    }

    void failing(String before, String operations, int number) {
        String text = textOf(documentOf(before));
        patched(before, operations, -1000 - number, text);
    }

    static PatchedDocument documentOf(String text) {
        PatchedDocument document = new PatchedDocument();
        if (read(document, text) < 0) {
            throw new IllegalArgumentException("this test's own text is wrong: " + text);
        }
        return document;
    }

    static int type(PatchedDocument document, String text) {
        int answer = 0;
        for (int from = 0; from < text.length(); from += 8) {
            String group = text.substring(from, Math.min(from + 8, text.length()));
            long characters = 0;
            for (int i = 0; i < group.length(); i++) {
                characters = characters << 8 | group.charAt(i);
            }
            answer = document.type(characters, group.length());
            if (answer < 0) {
                throw new IllegalArgumentException("this can't be typed: " + text);
            }
        }
        return answer;
    }

    static int read(PatchedDocument document, String text) {
        type(document, text);
        return document.read();
    }

    static int write(PatchedDocument document, String pointer) {
        type(document, pointer);
        return document.write();
    }

    static int look(PatchedDocument document, String pointer) {
        type(document, pointer);
        return document.look();
    }

    static int patch(PatchedDocument document, String operations) {
        type(document, operations);
        return document.patch();
    }

    static String written(PatchedDocument document) {
        StringBuilder text = new StringBuilder();
        for (int i = 0; document.written(i) != PatchedDocument.BAD; i++) {
            text.append((char) document.written(i));
        }
        return text.toString();
    }

    /** The document's whole text; the buffer must be empty. */
    static String textOf(PatchedDocument document) {
        document.write();
        return written(document);
    }

    static String times(int n, String text) {
        return text.repeat(n);
    }

    /** A list of the value, n times. */
    static String listOf(int n, String value) {
        return n == 0 ? "[]" : "[" + value + times(n - 1, "," + value) + "]";
    }
}
