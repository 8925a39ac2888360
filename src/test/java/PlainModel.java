import java.util.ArrayList;
import java.util.LinkedHashMap;
import java.util.List;
import java.util.Map;

/**
 * The document a second time, in another way, for RandomRunsTest: values of the Java library that
 * change in place, copied whole before a patch; a text followed one character at a time.
 */
final class PlainModel {
    private static final Object NULL = new Object();

    private Object document = NULL;
    private String buffer = "";
    private String written = "";

    int type(long characters, int n) {
        if (n < 1 || n > 8) {
            return -1;
        }
        String more = "";
        for (int i = 0; i < n; i++) {
            more = (char) (characters >>> 8 * i & 0xFF) + more;
        }
        for (char c : more.toCharArray()) {
            if (c < ' ' || c > '~') {
                return -1;
            }
        }
        if (buffer.length() + n > 120) {
            return -2;
        }
        buffer += more;
        return buffer.length();
    }

    int read() {
        Follower follower = new Follower(taken());
        if (follower.wrong >= 0) {
            return -100 - follower.wrong;
        }
        document = follower.whole;
        return size();
    }

    int write() {
        String pointer = taken();
        int wrong = wrongIn(pointer);
        if (wrong >= 0) {
            return -100 - wrong;
        }
        Object value = at(document, rows(pointer));
        if (value == null) {
            return -3;
        }
        String text = text(value);
        written = text.substring(0, Math.min(400, text.length()));
        return text.length();
    }

    int written(int i) {
        return i < 0 || i >= written.length() ? -1 : written.charAt(i);
    }

    int look() {
        String pointer = taken();
        int wrong = wrongIn(pointer);
        if (wrong >= 0) {
            return -100 - wrong;
        }
        Object value = at(document, rows(pointer));
        if (value == null) {
            return -3;
        }
        if (value instanceof String s) {
            return 4 + 10 * s.length();
        }
        if (value instanceof List<?> list) {
            return 5 + 10 * list.size();
        }
        if (value instanceof Map<?, ?> map) {
            return 6 + 10 * map.size();
        }
        return value == NULL ? 0 : value.equals(false) ? 1 : value.equals(true) ? 2 : 3;
    }

    int patch() {
        Follower follower = new Follower(taken());
        if (follower.wrong >= 0) {
            return -100 - follower.wrong;
        }
        if (!(follower.whole instanceof List<?> operations)) {
            return -1;
        }
        Object before = copy(document);
        for (int i = 0; i < operations.size(); i++) {
            if (!done(operations.get(i)) || size() > 48 || depth() > 6) {
                document = before;
                return -1000 - i;
            }
        }
        return operations.size();
    }

    int size() {
        return size(document);
    }

    int depth() {
        return depth(document);
    }

    /** Every pointer to a value of the document, for runs that shall often lead somewhere. */
    List<String> pointers() {
        List<String> all = new ArrayList<>();
        gather(document, "", all);
        return all;
    }

    private static void gather(Object value, String pointer, List<String> all) {
        all.add(pointer);
        if (value instanceof List<?> list) {
            for (int i = 0; i < list.size(); i++) {
                gather(list.get(i), pointer + "/" + i, all);
            }
        } else if (value instanceof Map<?, ?> map) {
            for (Map.Entry<?, ?> member : map.entrySet()) {
                String name = (String) member.getKey();
                gather(member.getValue(),
                        pointer + "/" + name.replace("~", "~0").replace("/", "~1"), all);
            }
        }
    }

    private String taken() {
        String text = buffer;
        buffer = "";
        return text;
    }

    private static List<Object> inside(Object value) {
        if (value instanceof List<?> list) {
            return new ArrayList<>(list);
        }
        return value instanceof Map<?, ?> map ? new ArrayList<>(map.values()) : List.of();
    }

    private static int size(Object value) {
        return 1 + inside(value).stream().mapToInt(PlainModel::size).sum();
    }

    private static int depth(Object value) {
        return 1 + inside(value).stream().mapToInt(PlainModel::depth).max().orElse(0);
    }

    private static Object copy(Object value) {
        if (value instanceof List<?> list) {
            List<Object> same = new ArrayList<>();
            list.forEach(inner -> same.add(copy(inner)));
            return same;
        }
        if (value instanceof Map<?, ?> map) {
            Map<Object, Object> same = new LinkedHashMap<>();
            map.forEach((name, inner) -> same.put(name, copy(inner)));
            return same;
        }
        return value;
    }

    static String text(Object value) {
        if (value instanceof String s) {
            StringBuilder text = new StringBuilder("\"");
            for (char c : s.toCharArray()) {
                text.append(c < 32 || c == 127 ? String.format("\\u%04x", (int) c)
                        : c == '"' || c == '\\' ? "\\" + c : "" + c);
            }
            return text.append('"').toString();
        }
        List<String> texts = new ArrayList<>();
        if (value instanceof List<?> list) {
            list.forEach(inner -> texts.add(text(inner)));
            return "[" + String.join(",", texts) + "]";
        }
        if (value instanceof Map<?, ?> map) {
            map.forEach((name, inner) -> texts.add(text(name) + ":" + text(inner)));
            return "{" + String.join(",", texts) + "}";
        }
        return value == NULL ? "null" : value.toString();
    }

    private static int wrongIn(String pointer) {
        for (int length = 1; length <= pointer.length(); length++) {
            if (!pointer.substring(0, length).matches("(/([^/~]|~[01])*)*(/([^/~]|~[01])*~)?")) {
                return length - 1;
            }
        }
        return pointer.endsWith("~") ? pointer.length() : -1;
    }

    private static List<String> rows(String pointer) {
        List<String> rows = new ArrayList<>();
        if (!pointer.isEmpty()) {
            for (String row : pointer.substring(1).split("/", -1)) {
                rows.add(row.replace("~1", "/").replace("~0", "~"));
            }
        }
        return rows;
    }

    private static Object at(Object value, List<String> rows) {
        Object here = value;
        for (String row : rows) {
            if (here instanceof Map<?, ?> map) {
                here = map.get(row);
            } else if (here instanceof List<?> list) {
                int index = index(row);
                here = index >= 0 && index < list.size() ? list.get(index) : null;
            } else {
                return null;
            }
        }
        return here;
    }

    private static int index(String row) {
        return row.matches("0|[1-9][0-9]{0,5}") ? Integer.parseInt(row) : -1;
    }

    private boolean done(Object operation) {
        if (!(operation instanceof Map<?, ?> members)) {
            return false;
        }
        Object op = members.get("op");
        Object path = members.get("path");
        Object from = members.get("from");
        if (!(op instanceof String) || !isPointer(path)) {
            return false;
        }
        if (op.equals("move") || op.equals("copy")) {
            return isPointer(from) && sent(op.equals("move"), (String) from, (String) path);
        }
        if (op.equals("remove")) {
            return removed((String) path);
        }
        Object value = copy(members.get("value"));
        if (value == null) {
            return false;
        }
        if (op.equals("add")) {
            return added((String) path, value);
        }
        Object old = at(document, rows((String) path));
        if (op.equals("replace")) {
            return old != null && replaced((String) path, value);
        }
        // lists and maps of the library are alike by equals just as the document says
        return op.equals("test") && old != null && old.equals(value);
    }

    private static boolean isPointer(Object value) {
        return value instanceof String s && wrongIn(s) < 0;
    }

    private boolean sent(boolean isMove, String from, String path) {
        Object value = copy(at(document, rows(from)));
        if (value == null) {
            return false;
        }
        if (!isMove) {
            return added(path, value);
        }
        if (from.equals(path)) {
            return true;
        }
        return !from.isEmpty() && !path.startsWith(from + "/") && removed(from) && added(path, value);
    }

    private boolean replaced(String path, Object value) {
        if (path.isEmpty()) {
            document = value;
            return true;
        }
        return put(path, value, false);
    }

    private boolean added(String path, Object value) {
        if (path.isEmpty()) {
            document = value;
            return true;
        }
        return put(path, value, true);
    }

    @SuppressWarnings("unchecked")
    private boolean put(String path, Object value, boolean isNew) {
        List<String> rows = rows(path);
        String last = rows.remove(rows.size() - 1);
        Object holder = at(document, rows);
        if (holder instanceof Map<?, ?> map) {
            ((Map<Object, Object>) map).put(last, value);
            return true;
        }
        if (!(holder instanceof List<?> list)) {
            return false;
        }
        int index = last.equals("-") ? list.size() : index(last);
        if (index < 0 || index > list.size()) {
            return false;
        }
        if (isNew) {
            ((List<Object>) list).add(index, value);
        } else {
            ((List<Object>) list).set(index, value);
        }
        return true;
    }

    private boolean removed(String path) {
        List<String> rows = rows(path);
        if (rows.isEmpty() || at(document, rows) == null) {
            return false;
        }
        String last = rows.remove(rows.size() - 1);
        Object holder = at(document, rows);
        if (holder instanceof List<?> list) {
            list.remove(index(last));
        } else if (holder instanceof Map<?, ?> map) {
            map.remove(last);
        }
        return true;
    }

    /** Follows a text character by character; what may come next stands in a state. */
    private static final class Follower {
        private enum State { VALUE, VALUE_OR_END, NAME, NAME_OR_END, COLON, BEHIND, WORD, DIGITS, STRING, ESCAPE, CODE }

        int wrong = -1;
        Object whole;
        private State state = State.VALUE;
        private final List<Object> open = new ArrayList<>();
        private final List<String> names = new ArrayList<>();
        private String token = "";
        private String string = "";
        private String code = "";
        private boolean isName;
        private int values;

        Follower(String text) {
            for (int place = 0; place < text.length() && wrong < 0; place++) {
                if (!goesOn(text.charAt(place))) {
                    wrong = place;
                }
            }
            if (wrong < 0 && state == State.DIGITS && token.matches("-?[0-9]+")) {
                finishNumber();
            }
            if (wrong < 0 && (whole == null || !open.isEmpty())) {
                wrong = text.length();
            }
        }

        private boolean goesOn(char c) {
            switch (state) {
                case WORD:
                    return goesOnInWord(c);
                case DIGITS:
                    return goesOnInDigits(c);
                case STRING:
                    return goesOnInString(c);
                case ESCAPE:
                    return goesOnBehindBackslash(c);
                case CODE:
                    return goesOnInCode(c);
                default:
                    return c == ' ' || goesOnBetween(c);
            }
        }

        private boolean goesOnBetween(char c) {
            switch (state) {
                case VALUE:
                    return begins(c);
                case VALUE_OR_END:
                    return c == ']' ? closes() : begins(c);
                case NAME_OR_END:
                    return c == '}' ? closes() : beginsName(c);
                case NAME:
                    return beginsName(c);
                case COLON:
                    state = State.VALUE;
                    return c == ':';
                default:
                    return goesOnBehindValue(c);
            }
        }

        private boolean goesOnBehindValue(char c) {
            if (open.isEmpty()) {
                return false;
            }
            boolean isList = open.get(open.size() - 1) instanceof List<?>;
            if (c == ',') {
                state = isList ? State.VALUE : State.NAME;
                return true;
            }
            return c == (isList ? ']' : '}') && closes();
        }

        private boolean begins(char c) {
            values++;
            if (values > 48 || open.size() >= 6) {
                return false;
            }
            token = "" + c;
            if (c == '[' || c == '{') {
                open.add(c == '[' ? new ArrayList<Object>() : new LinkedHashMap<String, Object>());
                state = c == '[' ? State.VALUE_OR_END : State.NAME_OR_END;
                return true;
            }
            if (c == '"') {
                string = "";
                isName = false;
                state = State.STRING;
                return true;
            }
            state = "nft".indexOf(c) >= 0 ? State.WORD : State.DIGITS;
            return "nft-0123456789".indexOf(c) >= 0;
        }

        private boolean beginsName(char c) {
            string = "";
            isName = true;
            state = State.STRING;
            return c == '"';
        }

        private boolean closes() {
            finish(open.remove(open.size() - 1));
            return true;
        }

        private boolean goesOnInWord(char c) {
            token += c;
            for (String word : List.of("null", "false", "true")) {
                if (word.equals(token)) {
                    finish(c == 'l' ? NULL : (Object) word.equals("true"));
                    return true;
                }
                if (word.startsWith(token)) {
                    return true;
                }
            }
            return false;
        }

        private boolean goesOnInDigits(char c) {
            if ((token + c).matches("-?(0|[1-9][0-9]{0,8})")) {
                token += c;
                return true;
            }
            if (token.equals("-")) {
                return false;
            }
            finishNumber();
            return c == ' ' || goesOnBetween(c);
        }

        private void finishNumber() {
            finish(Integer.valueOf(token));
        }

        private boolean goesOnInString(char c) {
            if (c == '"') {
                return closesString();
            }
            if (string.length() == 40) {
                return false;
            }
            if (c == '\\') {
                state = State.ESCAPE;
            } else {
                string += c;
            }
            return true;
        }

        private boolean closesString() {
            if (!isName) {
                finish(string);
                return true;
            }
            state = State.COLON;
            names.add(string);
            return !((Map<?, ?>) open.get(open.size() - 1)).containsKey(string);
        }

        private boolean goesOnBehindBackslash(char c) {
            code = "";
            state = c == 'u' ? State.CODE : State.STRING;
            Map<Character, Character> meant = Map.of('"', '"', '\\', '\\', '/', '/', 'b', '\b',
                    'f', '\f', 'n', '\n', 'r', '\r', 't', '\t');
            if (meant.containsKey(c)) {
                string += meant.get(c);
                return true;
            }
            return c == 'u';
        }

        private boolean goesOnInCode(char c) {
            code += c;
            if (!code.matches("[0-9a-fA-F]+")) {
                return false;
            }
            if (code.length() == 4) {
                string += (char) Integer.parseInt(code, 16);
                state = State.STRING;
            }
            return code.length() < 4 || Integer.parseInt(code, 16) < 128;
        }

        @SuppressWarnings("unchecked")
        private void finish(Object value) {
            state = State.BEHIND;
            if (open.isEmpty()) {
                whole = value;
                return;
            }
            Object holder = open.get(open.size() - 1);
            if (holder instanceof List<?> list) {
                ((List<Object>) list).add(value);
            } else {
                ((Map<String, Object>) holder).put(names.remove(names.size() - 1), value);
            }
        }
    }
}
