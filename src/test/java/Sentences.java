/**
 * Checks of the document's sentences, one by one: an answer that is not due is told with the
 * sentence that it breaks. In the texts that are given here, ' stands for ".
 */
final class Sentences extends Checks {
    private String sentence;
    private int answers;

    Sentences(String part) {
        super("boundaries of " + part);
    }

    /** Tests words of the document; one that breaks off does not keep the next from being tested. */
    void says(String words, Runnable test) {
        sentence = words;
        answers = 0;
        try {
            test.run();
        } catch (RuntimeException broken) {
            due("tested to the end", broken, "no exception");
        }
        if (answers == 0) {
            due("tested at all", false, true);
        }
    }

    /** Tests one of the cases of which the words tell. */
    void says(String words, String which, Runnable test) {
        says(words + " (" + which + ")", test);
    }

    @Override
    void due(String call, Object got, Object want) {
        answers++;
        super.due("<" + sentence + "> " + call, got, want);
    }

    static PatchedDocument make(String document) {
        return documentOf(OperationTexts.quoted(document));
    }

    void reads(String text, int size, String behind) {
        PatchedDocument d = new PatchedDocument();
        due("read " + text, read(d, OperationTexts.quoted(text)), size);
        due("the text of " + text, textOf(d), OperationTexts.quoted(behind));
    }

    /** The text is read, and written again as it is. */
    void same(String text, int size) {
        reads(text, size, text);
    }

    /** The text is wrong there, whether it is read or is that of a patch; the document stays. */
    void wrong(String text, int place) {
        PatchedDocument d = documentOf("[7]");
        due("read " + text, read(d, OperationTexts.quoted(text)), -100 - place);
        due("patch " + text, patch(d, OperationTexts.quoted(text)), -100 - place);
        due("the document behind " + text, textOf(d), "[7]");
    }

    void writes(String document, String pointer, String text) {
        PatchedDocument d = make(document);
        String due = OperationTexts.quoted(text);
        due("write " + pointer + " of " + document, write(d, OperationTexts.quoted(pointer)), due.length());
        due("written " + pointer + " of " + document, written(d), due);
    }

    void looks(String document, String pointer, int answer) {
        due("look " + pointer + " in " + document,
                look(make(document), OperationTexts.quoted(pointer)), answer);
    }

    /** Neither written nor looked at; what is written stays. */
    void refused(String document, String pointer, int answer) {
        PatchedDocument d = make(document);
        String before = textOf(d);
        due("write " + pointer + " of " + document, write(d, OperationTexts.quoted(pointer)), answer);
        due("what is written behind it", written(d), before);
        looks(document, pointer, answer);
    }

    void nowhere(String document, String pointer) {
        refused(document, pointer, -3);
    }

    /** No pointer, whether it is typed or is an operation's path. */
    void noPointer(String text, int place) {
        refused("{'a':1}", text, -100 - place);
        fails("{'a':1}", OperationTexts.add(text, "1"));
    }

    void done(String before, String operation, String behind) {
        patches(before, OperationTexts.row(operation), 1, behind);
    }

    void fails(String before, String operation) {
        failsAt(before, OperationTexts.row(operation), 0);
    }

    void failsAt(String before, String operations, int number) {
        failing(OperationTexts.quoted(before), OperationTexts.quoted(operations), number);
    }

    void patches(String before, String operations, int answer, String behind) {
        patched(OperationTexts.quoted(before), OperationTexts.quoted(operations), answer,
                OperationTexts.quoted(behind));
    }
}
