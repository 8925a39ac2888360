import java.util.List;
import java.util.Random;

/** Runs of calls, drawn but the same each time, held against the answers of PlainModel. */
public final class RandomRunsTest {
    private static final int RUNS = 1500;
    private static final int CALLS = 512;
    private static final String[] NAMES = {"a", "b", "", "a/b", "~", "0", "1", "-", "op", "\n", "ab"};

    private static final String MARKS = " ,:[]{}\"\\/~0123456789-ntfua";

    private final Checks checks;
    private final Random random;
    private final PatchedDocument document = new PatchedDocument();
    private final PlainModel model = new PlainModel();
    private int calls;

    private RandomRunsTest(Checks checks, int seed) {
        this.checks = checks;
        random = new Random(seed);
    }

    public static void main(String[] args) {
        Checks checks = new Checks("random runs");
        for (int seed = 0; seed < RUNS; seed++) {
            new RandomRunsTest(checks, seed).run(seed);
        }
        checks.end();
    }

    private void run(int seed) {
        String run = "run " + seed + ": ";
        while (calls < CALLS - 30) {
            switch (random.nextInt(8)) {
                case 0 -> typeAtRandom(run);
                case 1 -> {
                    String text = spoiled(value(1 + random.nextInt(6)), 3);
                    type(run, text);
                    due(run + "read " + text, document.read(), model.read());
                }
                case 2 -> {
                    String pointer = spoiled(pointer(), 8);
                    type(run, pointer);
                    due(run + "look " + pointer, document.look(), model.look());
                }
                case 3 -> {
                    String pointer = spoiled(pointer(), 8);
                    type(run, pointer);
                    due(run + "write " + pointer, document.write(), model.write());
                    int i = random.nextInt(60) - 2;
                    due(run + "written " + i, document.written(i), model.written(i));
                }
                default -> {
                    String operations = spoiled(operations(), 20);
                    type(run, operations);
                    due(run + "patch " + operations, document.patch(), model.patch());
                    due(run + "the text behind it", document.write(), model.write());
                }
            }
            due(run + "size", document.size(), model.size());
            due(run + "depth", document.depth(), model.depth());
        }
        document.write();
        model.write();
        for (int i = -1; i < 25; i++) {
            due(run + "written " + i, document.written(i), model.written(i));
        }
    }

    private void due(String call, int got, int want) {
        calls++;
        checks.due(call, got, want);
    }

    private void typeAtRandom(String run) {
        long characters = random.nextLong() & 0x3F3F3F3F3F3F3F3FL | 0x2020202020202020L;
        int n = random.nextInt(11) - 1;
        due(run + "type", document.type(characters, n), model.type(characters, n));
    }

    private void type(String run, String text) {
        for (int from = 0; from < text.length(); from += 8) {
            String group = text.substring(from, Math.min(from + 8, text.length()));
            long characters = 0;
            for (char c : group.toCharArray()) {
                characters = characters << 8 | c;
            }
            due(run + "type " + group, document.type(characters, group.length()),
                    model.type(characters, group.length()));
        }
    }

    /** One text of so many with a character taken out, put in, or changed, or cut off. */
    private String spoiled(String text, int many) {
        if (random.nextInt(many) != 0 || text.isEmpty()) {
            return text;
        }
        int at = random.nextInt(text.length());
        String c = "" + MARKS.charAt(random.nextInt(MARKS.length()));
        return switch (random.nextInt(4)) {
            case 0 -> text.substring(0, at) + text.substring(at + 1);
            case 1 -> text.substring(0, at) + c + text.substring(at);
            case 2 -> text.substring(0, at) + c + text.substring(at + 1);
            default -> text.substring(0, at);
        };
    }

    private String blank() {
        return random.nextInt(12) == 0 ? " " : "";
    }

    private String name() {
        return NAMES[random.nextInt(NAMES.length)];
    }

    private String string(String characters) {
        StringBuilder text = new StringBuilder("\"");
        for (char c : characters.toCharArray()) {
            boolean isPlain = c >= 32 && c < 127 && c != '"' && c != '\\' && random.nextInt(15) != 0;
            text.append(isPlain ? "" + c : String.format("\\u%04x", (int) c));
        }
        return text.append('"').toString();
    }

    private String value(int levels) {
        int kind = random.nextInt(levels > 1 ? 9 : 5);
        return switch (kind) {
            case 0 -> "null";
            case 1 -> random.nextBoolean() ? "true" : "false";
            case 2 -> "" + (random.nextInt(3) - 1);
            case 3 -> "" + random.nextInt(1000000000) / (int) Math.pow(10, random.nextInt(9));
            case 4 -> string(name());
            default -> holder(levels, kind < 7);
        };
    }

    private String holder(int levels, boolean isList) {
        StringBuilder text = new StringBuilder(isList ? "[" : "{").append(blank());
        int count = random.nextInt(5);
        for (int i = 0; i < count; i++) {
            text.append(i == 0 ? "" : ",").append(blank());
            if (!isList) {
                text.append(string(name())).append(blank()).append(":").append(blank());
            }
            text.append(value(levels - 1)).append(blank());
        }
        return text.append(isList ? "]" : "}").toString();
    }

    private String pointer() {
        List<String> all = model.pointers();
        String pointer = all.get(random.nextInt(all.size()));
        if (random.nextInt(3) == 0) {
            pointer += "/" + name().replace("~", "~0").replace("/", "~1");
        }
        return pointer.chars().allMatch(c -> c >= 32 && c < 127) ? pointer : "";
    }

    private String operations() {
        StringBuilder text = new StringBuilder("[");
        int count = random.nextInt(4);
        for (int i = 0; i < count; i++) {
            text.append(i == 0 ? "" : ",").append(operation());
        }
        return text.append("]").toString();
    }

    private String operation() {
        String[] ops = {"test", "remove", "add", "add", "replace", "move", "copy", "copy"};
        String op = ops[random.nextInt(ops.length)];
        String text = "{\"op\":\"" + op + "\",\"path\":" + string(pointer());
        if (op.equals("move") || op.equals("copy")) {
            text += ",\"from\":" + string(pointer());
        } else if (!op.equals("remove")) {
            text += ",\"value\":" + value(1 + random.nextInt(3));
        }
        return text + "}";
    }
}
