import java.io.IOException;
import java.nio.file.Files;
import java.nio.file.Path;
import java.util.regex.Matcher;
import java.util.regex.Pattern;

/** The example in README.md: each of its calls answers the number that stands behind it. */
public final class ReadmeExampleTest {
    private static final Checks CHECKS = new Checks("README.md");
    private static final Pattern CALL =
            Pattern.compile("document\\.(\\w+)\\((?:(\\w+?)L?(?:, (\\w+))?)?\\); *// (-?\\d+): .+");
    private static final Pattern TYPED = Pattern.compile("typeText\\(document, \"(.*)\"\\);");

    public static void main(String[] args) throws IOException {
        PatchedDocument document = new PatchedDocument();
        int calls = 0;
        for (String line : Files.readAllLines(Path.of("README.md"))) {
            Matcher typed = TYPED.matcher(line);
            if (typed.matches()) {
                Checks.type(document, typed.group(1).replace("\\\"", "\""));
            }
            if (line.startsWith("document.")) {
                answers(document, line);
                calls++;
            }
        }
        CHECKS.due("there are calls", calls > 0, true);
        CHECKS.end();
    }

    private static void answers(PatchedDocument document, String line) {
        Matcher call = CALL.matcher(line);
        boolean told = call.matches();
        CHECKS.due("told with its answer: " + line, told, true);
        if (told) {
            CHECKS.due(line, answer(document, call), Integer.parseInt(call.group(4)));
        }
    }

    private static int answer(PatchedDocument document, Matcher call) {
        switch (call.group(1)) {
            case "type":
                return document.type(Long.decode(call.group(2)), Integer.parseInt(call.group(3)));
            case "written":
                return document.written(Integer.parseInt(call.group(2)));
            case "read":
                return document.read();
            case "write":
                return document.write();
            case "look":
                return document.look();
            case "patch":
                return document.patch();
            case "size":
                return document.size();
            case "depth":
                return document.depth();
            default:
                throw new IllegalArgumentException(call.group(1));
        }
    }
}
