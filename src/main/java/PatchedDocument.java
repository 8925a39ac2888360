import java.util.ArrayList;

/**
 * A document of values within values: read from a text, written again, asked for by pointers,
 * and changed by rows of operations, all of them or none.
 */
public final class PatchedDocument {
    public static final int BAD = -1;
    public static final int FULL = -2;
    public static final int NOWHERE = -3;

    private static final int BUFFER_ROOM = 120;
    private static final int WRITTEN_ROOM = 400;
    private static final int MOST_VALUES = 48;
    private static final int MOST_DEPTH = 6;
    private static final int MOST_CHARACTERS = 40;
    private static final int MOST_DIGITS = 9;
    private static final int HIGHEST_CODE = 127;
    private static final int WRONG_PLACES = -100;
    private static final int FAILED_OPERATIONS = -1000;
    private static final int NONE = -1;

    private final StringBuilder buffer;
    private final TextWriter writer;
    private Value document;

    public PatchedDocument() {
        buffer = new StringBuilder();
        writer = new TextWriter();
        document = Value.ofWord(Value.NULL);
    }

    public int type(long characters, int n) {
        if (n < 1 || n > 8 || !allTypeable(characters, n)) {
            return BAD;
        }
        if (buffer.length() + n > BUFFER_ROOM) {
            return FULL;
        }
        for (int i = n - 1; i >= 0; i--) {
            buffer.append((char) byteAt(characters, i));
        }
        return buffer.length();
    }

    public int read() {
        TextReader reader = new TextReader(takeBuffer());
        Value whole = reader.wholeValue();
        if (whole == null) {
            return WRONG_PLACES - reader.place;
        }
        document = whole;
        return document.size;
    }

    public int write() {
        Pointer pointer = new Pointer(takeBuffer());
        Value value = pointer.target(document);
        return value == null ? refusal(pointer) : writer.writeAnew(value);
    }

    public int written(int i) {
        return writer.characterAt(i);
    }

    public int look() {
        Pointer pointer = new Pointer(takeBuffer());
        Value value = pointer.target(document);
        return value == null ? refusal(pointer) : value.kind + 10 * value.extent();
    }

    public int patch() {
        TextReader reader = new TextReader(takeBuffer());
        Value operations = reader.wholeValue();
        if (operations == null) {
            return WRONG_PLACES - reader.place;
        }
        if (operations.kind != Value.LIST) {
            return BAD;
        }
        // values never change, so the old document stays whole if an operation fails
        Value changed = document;
        int count = operations.count();
        for (int i = 0; i < count; i++) {
            changed = new Operation(operations.part(i).value).behind(changed);
            if (changed == null) {
                return FAILED_OPERATIONS - i;
            }
        }
        document = changed;
        return count;
    }

    public int size() {
        return document.size;
    }

    public int depth() {
        return document.depth;
    }

    private static int byteAt(long characters, int i) {
        return (int) (characters >> (8 * i)) & 255;
    }

    private static boolean allTypeable(long characters, int n) {
        for (int i = 0; i < n; i++) {
            int code = byteAt(characters, i);
            if (code < 32 || code > 126) {
                return false;
            }
        }
        return true;
    }

    private String takeBuffer() {
        String text = buffer.toString();
        buffer.setLength(0);
        return text;
    }

    private static int refusal(Pointer pointer) {
        return pointer.wrongPlace == NONE ? NOWHERE : WRONG_PLACES - pointer.wrongPlace;
    }

    /** A value in a list or, with its name, in an object. */
    private static final class Part {
        final String name;
        final Value value;

        Part(String name, Value value) {
            this.name = name;
            this.value = value;
        }
    }

    /** A value, which never changes once it is made; so several documents may share it. */
    private static final class Value {
        static final int NULL = 0;
        static final int FALSE = 1;
        static final int TRUE = 2;
        static final int NUMBER = 3;
        static final int STRING = 4;
        static final int LIST = 5;
        static final int OBJECT = 6;

        final int kind;
        final int number;
        final String text;
        final int size;
        final int depth;
        private final ArrayList<Part> parts;

        private Value(int kind, int number, String text, ArrayList<Part> parts) {
            this.kind = kind;
            this.number = number;
            this.text = text;
            this.parts = parts;
            int total = 1;
            int deepest = 0;
            int count = parts == null ? 0 : parts.size();
            for (int i = 0; i < count; i++) {
                Value inner = parts.get(i).value;
                total += inner.size;
                deepest = Math.max(deepest, inner.depth);
            }
            this.size = total;
            this.depth = deepest + 1;
        }

        static Value ofWord(int kind) {
            return new Value(kind, 0, "", null);
        }

        static Value ofNumber(int number) {
            return new Value(NUMBER, number, "", null);
        }

        static Value ofString(String text) {
            return new Value(STRING, 0, text, null);
        }

        /** The row of parts is the value's own from here on. */
        static Value ofParts(int kind, ArrayList<Part> parts) {
            return new Value(kind, 0, "", parts);
        }

        int count() {
            return parts == null ? 0 : parts.size();
        }

        int extent() {
            return kind == STRING ? text.length() : count();
        }

        /** Asked for with an index below count() alone. */
        Part part(int index) {
            return parts.get(index);
        }

        boolean fits() {
            return size <= MOST_VALUES && depth <= MOST_DEPTH;
        }

        /** The index of the part to which a pointer's row leads, or NONE. */
        int find(String row) {
            if (kind == LIST) {
                int index = indexIn(row);
                return index < count() ? index : NONE;
            }
            return kind == OBJECT ? indexOfName(parts, row) : NONE;
        }

        Value valueAt(String row) {
            int index = find(row);
            return index == NONE ? null : part(index).value;
        }

        Value without(int index) {
            ArrayList<Part> rest = copyOfParts();
            rest.remove(index);
            return ofParts(kind, rest);
        }

        Value withValue(int index, Value value) {
            ArrayList<Part> changed = copyOfParts();
            changed.set(index, new Part(part(index).name, value));
            return ofParts(kind, changed);
        }

        /** This list or object with the value added at the row; null when it can't be. */
        Value with(String row, Value value) {
            if (kind == LIST) {
                int index = row.equals("-") ? count() : indexIn(row);
                boolean inside = index != NONE && index <= count();
                return inside ? withPart(index, new Part("", value)) : null;
            }
            if (kind == OBJECT) {
                int index = find(row);
                return index == NONE
                        ? withPart(count(), new Part(row, value))
                        : withValue(index, value);
            }
            return null;
        }

        private Value withPart(int index, Part part) {
            ArrayList<Part> more = copyOfParts();
            more.add(index, part);
            return ofParts(kind, more);
        }

        private ArrayList<Part> copyOfParts() {
            ArrayList<Part> copy = new ArrayList<>();
            int count = count();
            for (int i = 0; i < count; i++) {
                copy.add(part(i));
            }
            return copy;
        }

        static int indexOfName(ArrayList<Part> members, String name) {
            for (int i = 0; i < members.size(); i++) {
                if (members.get(i).name.equals(name)) {
                    return i;
                }
            }
            return NONE;
        }

        /** No list has an index of more than nine digits: so the number can't run over. */
        private static int indexIn(String row) {
            int length = row.length();
            if (length == 0 || length > MOST_DIGITS || length > 1 && row.charAt(0) == '0') {
                return NONE;
            }
            int index = 0;
            for (int i = 0; i < length; i++) {
                char c = row.charAt(i);
                if (c < '0' || c > '9') {
                    return NONE;
                }
                index = 10 * index + (c - '0');
            }
            return index;
        }

        private static boolean alike(Value a, Value b) {
            if (a.kind != b.kind || a.number != b.number || a.count() != b.count()) {
                return false;
            }
            for (int i = 0; i < a.count(); i++) {
                Part part = a.part(i);
                int index = a.kind == OBJECT ? b.find(part.name) : i;
                if (index == NONE || !alike(part.value, b.part(index).value)) {
                    return false;
                }
            }
            return a.text.equals(b.text);
        }
    }

    /** Reads a text; when an answer is null, the text is wrong at the place reached. */
    private static final class TextReader {
        private static final char END = 0;
        private static final String LETTERS = "\"\\/bfnrt";
        private static final String MEANT_BY_LETTERS = "\"\\/\b\f\n\r\t";

        int place;
        private final String text;
        private final StringBuilder characters;
        private int values;

        TextReader(String text) {
            this.text = text;
            characters = new StringBuilder();
        }

        Value wholeValue() {
            skipBlanks();
            Value whole = value(1);
            if (whole == null) {
                return null;
            }
            skipBlanks();
            return place == text.length() ? whole : null;
        }

        private char here() {
            return place < text.length() ? text.charAt(place) : END;
        }

        private void skipBlanks() {
            while (place < text.length() && text.charAt(place) == ' ') {
                place++;
            }
        }

        /** Goes over the mark and the blanks at both its sides, if it comes next. */
        private boolean skipMark(char mark) {
            skipBlanks();
            if (here() != mark) {
                return false;
            }
            place++;
            skipBlanks();
            return true;
        }

        private Value value(int depth) {
            if (values == MOST_VALUES || depth > MOST_DEPTH) {
                return null;
            }
            values++;
            switch (here()) {
                case 'n':
                    return word("null", Value.NULL);
                case 'f':
                    return word("false", Value.FALSE);
                case 't':
                    return word("true", Value.TRUE);
                case '"':
                    String string = string();
                    return string == null ? null : Value.ofString(string);
                case '[':
                    return parts(Value.LIST, ']', depth);
                case '{':
                    return parts(Value.OBJECT, '}', depth);
                default:
                    return number();
            }
        }

        private Value word(String word, int kind) {
            for (int i = 0; i < word.length(); i++) {
                if (here() != word.charAt(i)) {
                    return null;
                }
                place++;
            }
            return Value.ofWord(kind);
        }

        /** Stops before a digit too many; nothing goes on with a digit behind a number. */
        private Value number() {
            boolean below = here() == '-';
            if (below) {
                place++;
            }
            if (here() == '0') {
                place++;
                return Value.ofNumber(0);
            }
            int number = 0;
            int digits = 0;
            while (digits < MOST_DIGITS && here() >= '0' && here() <= '9') {
                number = 10 * number + (here() - '0');
                digits++;
                place++;
            }
            return digits == 0 ? null : Value.ofNumber(below ? -number : number);
        }

        private Value parts(int kind, char closing, int depth) {
            ArrayList<Part> parts = new ArrayList<>();
            place++;
            skipBlanks();
            if (here() == closing) {
                place++;
                return Value.ofParts(kind, parts);
            }
            for (int i = 0; i < MOST_VALUES; i++) {
                String name = kind == Value.OBJECT ? newName(parts) : "";
                Value value = name == null ? null : value(depth + 1);
                if (value == null) {
                    return null;
                }
                parts.add(new Part(name, value));
                if (skipMark(closing)) {
                    return Value.ofParts(kind, parts);
                }
                if (!skipMark(',')) {
                    return null;
                }
            }
            return null;
        }

        /** A name that the members do not have yet, and the : behind it. */
        private String newName(ArrayList<Part> members) {
            String name = here() == '"' ? string() : null;
            if (name == null) {
                return null;
            }
            if (Value.indexOfName(members, name) != NONE) {
                // the place that is told is that of the name's last "
                place--;
                return null;
            }
            return skipMark(':') ? name : null;
        }

        private String string() {
            characters.setLength(0);
            place++;
            for (int i = 0; i <= MOST_CHARACTERS; i++) {
                char c = here();
                if (c == '"') {
                    place++;
                    return characters.toString();
                }
                if (c == END || i == MOST_CHARACTERS) {
                    return null;
                }
                place++;
                int code = c;
                if (c == '\\') {
                    code = here() == 'u' ? codeInDigits() : codeOfLetter();
                }
                if (code == NONE) {
                    return null;
                }
                characters.append((char) code);
            }
            return null;
        }

        private int codeOfLetter() {
            int letter = LETTERS.indexOf(here());
            if (letter < 0) {
                return NONE;
            }
            place++;
            return MEANT_BY_LETTERS.charAt(letter);
        }

        private int codeInDigits() {
            place++;
            int code = 0;
            for (int i = 0; i < 4; i++) {
                int digit = digitToBase16(here());
                code = 16 * code + digit;
                if (digit == NONE || i == 3 && code > HIGHEST_CODE) {
                    return NONE;
                }
                place++;
            }
            return code;
        }

        private static int digitToBase16(char c) {
            if (c >= '0' && c <= '9') {
                return c - '0';
            }
            if (c >= 'a' && c <= 'f') {
                return c - 'a' + 10;
            }
            return c >= 'A' && c <= 'F' ? c - 'A' + 10 : NONE;
        }
    }

    /** Writes texts: keeps the beginning, counts the whole. */
    private static final class TextWriter {
        private static final String DIGITS = "0123456789abcdef";

        private final char[] kept;
        private int length;

        TextWriter() {
            kept = new char[WRITTEN_ROOM];
        }

        int characterAt(int i) {
            return i >= 0 && i < length && i < kept.length ? kept[i] : BAD;
        }

        int writeAnew(Value value) {
            length = 0;
            putValue(value);
            return length;
        }

        private void put(char c) {
            if (length < kept.length) {
                kept[length] = c;
            }
            length++;
        }

        private void putWord(String word) {
            for (int i = 0; i < word.length(); i++) {
                put(word.charAt(i));
            }
        }

        private void putValue(Value value) {
            switch (value.kind) {
                case Value.FALSE:
                    putWord("false");
                    break;
                case Value.TRUE:
                    putWord("true");
                    break;
                case Value.NUMBER:
                    putNumber(value.number);
                    break;
                case Value.STRING:
                    putString(value.text);
                    break;
                case Value.LIST:
                    putParts(value, '[', ']');
                    break;
                case Value.OBJECT:
                    putParts(value, '{', '}');
                    break;
                default:
                    putWord("null");
                    break;
            }
        }

        private void putNumber(int number) {
            if (number < 0) {
                put('-');
            }
            int rest = Math.abs(number);
            for (int unit = 100000000; unit > 0; unit /= 10) {
                if (rest >= unit || unit == 1) {
                    put(DIGITS.charAt(rest / unit % 10));
                }
            }
        }

        private void putString(String text) {
            put('"');
            for (int i = 0; i < text.length(); i++) {
                putCharacter(text.charAt(i));
            }
            put('"');
        }

        private void putCharacter(char c) {
            if (c < 32 || c == HIGHEST_CODE) {
                put('\\');
                put('u');
                put('0');
                put('0');
                put(DIGITS.charAt(c / 16));
                put(DIGITS.charAt(c % 16));
                return;
            }
            if (c == '"' || c == '\\') {
                put('\\');
            }
            put(c);
        }

        private void putParts(Value value, char opening, char closing) {
            put(opening);
            for (int i = 0; i < value.count(); i++) {
                if (i > 0) {
                    put(',');
                }
                Part part = value.part(i);
                if (value.kind == Value.OBJECT) {
                    putString(part.name);
                    put(':');
                }
                putValue(part.value);
            }
            put(closing);
        }
    }

    /** One row of a pointer, decoded, and the step behind it. */
    private static final class Step {
        final String row;
        Step next;

        Step(String row) {
            this.row = row;
        }
    }

    /** A text as a pointer; it leads nowhere when it is none. */
    private static final class Pointer {
        final int wrongPlace;
        private final String text;
        private Step first;
        private Step last;

        Pointer(String text) {
            this.text = text;
            wrongPlace = placeOfWrong(text);
            if (wrongPlace == NONE) {
                makeSteps();
            }
        }

        Value target(Value document) {
            return wrongPlace == NONE ? follow(document, null) : null;
        }

        boolean isSameAs(Pointer other) {
            return text.equals(other.text);
        }

        /** Whether other goes on with / behind the whole of this one. */
        boolean isBeginningOf(Pointer other) {
            int length = text.length();
            return other.text.length() > length
                    && other.text.charAt(length) == '/'
                    && other.text.substring(0, length).equals(text);
        }

        /** The document without the value to which this leads; null when it can't be. */
        Value removed(Value document) {
            Value holder = last == null ? null : follow(document, last);
            int index = holder == null ? NONE : holder.find(last.row);
            return index == NONE ? null : rebuilt(document, first, last, holder.without(index));
        }

        /** The document with the value added here; null when it can't be. */
        Value added(Value document, Value value) {
            if (last == null) {
                return value;
            }
            Value holder = follow(document, last);
            Value changed = holder == null ? null : holder.with(last.row, value);
            return changed == null ? null : rebuilt(document, first, last, changed);
        }

        /** The document with the value in place of that to which this leads; null if none. */
        Value replaced(Value document, Value value) {
            return rebuilt(document, first, null, value);
        }

        /** Where the steps before stop lead, or null. */
        private Value follow(Value from, Step stop) {
            Value at = from;
            for (Step step = first; step != null && step != stop; step = step.next) {
                at = at.valueAt(step.row);
                if (at == null) {
                    return null;
                }
            }
            return at;
        }

        /** Goes as deep as the document does at most: a value with none in it finds no row. */
        private static Value rebuilt(Value at, Step step, Step stop, Value value) {
            if (step == null || step == stop) {
                return value;
            }
            int index = at.find(step.row);
            if (index == NONE) {
                return null;
            }
            Value inner = rebuilt(at.part(index).value, step.next, stop, value);
            return inner == null ? null : at.withValue(index, inner);
        }

        private static int placeOfWrong(String text) {
            if (!text.isEmpty() && text.charAt(0) != '/') {
                return 0;
            }
            for (int i = 0; i < text.length(); i++) {
                if (text.charAt(i) == '~' && !hasTildeDigit(text, i + 1)) {
                    return i + 1;
                }
            }
            return NONE;
        }

        private static boolean hasTildeDigit(String text, int i) {
            return i < text.length() && (text.charAt(i) == '0' || text.charAt(i) == '1');
        }

        private void makeSteps() {
            int slash = 0;
            for (int i = 1; i <= text.length(); i++) {
                if (i == text.length() || text.charAt(i) == '/') {
                    append(new Step(decoded(text.substring(slash + 1, i))));
                    slash = i;
                }
            }
        }

        private void append(Step step) {
            if (last == null) {
                first = step;
            } else {
                last.next = step;
            }
            last = step;
        }

        private static String decoded(String row) {
            if (row.indexOf('~') < 0) {
                return row;
            }
            StringBuilder plain = new StringBuilder();
            boolean behindTilde = false;
            for (int i = 0; i < row.length(); i++) {
                char c = row.charAt(i);
                if (behindTilde) {
                    plain.append(c == '0' ? '~' : '/');
                } else if (c != '~') {
                    plain.append(c);
                }
                behindTilde = !behindTilde && c == '~';
            }
            return plain.toString();
        }
    }

    /** A value as an operation; what it lacks, or has of a wrong kind, is null. */
    private static final class Operation {
        private final String op;
        private final Pointer path;
        private final Pointer from;
        private final Value value;

        Operation(Value members) {
            op = stringAt(members, "op");
            path = pointerAt(members, "path");
            from = pointerAt(members, "from");
            value = memberAt(members, "value");
        }

        /** The document behind this operation; null when it fails. */
        Value behind(Value document) {
            if (op == null || path == null) {
                return null;
            }
            Value changed = null;
            if (op.equals("remove")) {
                changed = path.removed(document);
            } else if (op.equals("move")) {
                changed = moved(document);
            } else if (op.equals("copy")) {
                changed = copied(document);
            } else if (value != null) {
                changed = changedByValue(document);
            }
            return changed != null && changed.fits() ? changed : null;
        }

        private Value copied(Value document) {
            Value source = from == null ? null : from.target(document);
            return source == null ? null : path.added(document, source);
        }

        private Value moved(Value document) {
            Value source = from == null ? null : from.target(document);
            if (source == null) {
                return null;
            }
            if (from.isSameAs(path)) {
                return document;
            }
            // the empty one begins every other path, so it is refused here, too
            Value rest = from.isBeginningOf(path) ? null : from.removed(document);
            return rest == null ? null : path.added(rest, source);
        }

        private Value changedByValue(Value document) {
            if (op.equals("add")) {
                return path.added(document, value);
            }
            if (op.equals("replace")) {
                return path.replaced(document, value);
            }
            return op.equals("test") ? tested(document) : null;
        }

        private Value tested(Value document) {
            Value target = path.target(document);
            return target != null && Value.alike(target, value) ? document : null;
        }

        private static Value memberAt(Value members, String name) {
            return members.kind == Value.OBJECT ? members.valueAt(name) : null;
        }

        private static String stringAt(Value members, String name) {
            Value member = memberAt(members, name);
            return member != null && member.kind == Value.STRING ? member.text : null;
        }

        private static Pointer pointerAt(Value members, String name) {
            String text = stringAt(members, name);
            Pointer pointer = text == null ? null : new Pointer(text);
            return pointer != null && pointer.wrongPlace == NONE ? pointer : null;
        }
    }
}
