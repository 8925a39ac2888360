/** For tests that extend it: the texts of operations, with ' in place of ", to be read more easily. */
abstract class OperationTexts {
    /** The text that is meant, with ". */
    static String quoted(String text) {
        return text.replace('\'', '"');
    }

    /** A list of operations. */
    static String row(String... operations) {
        return "[" + String.join(",", operations) + "]";
    }

    static String test(String path, String value) {
        return "{'op':'test','path':'" + path + "','value':" + value + "}";
    }

    static String remove(String path) {
        return "{'op':'remove','path':'" + path + "'}";
    }

    static String add(String path, String value) {
        return "{'op':'add','path':'" + path + "','value':" + value + "}";
    }

    static String replace(String path, String value) {
        return "{'op':'replace','path':'" + path + "','value':" + value + "}";
    }

    static String move(String from, String path) {
        return "{'op':'move','from':'" + from + "','path':'" + path + "'}";
    }

    static String copy(String from, String path) {
        return "{'op':'copy','from':'" + from + "','path':'" + path + "'}";
    }
}
