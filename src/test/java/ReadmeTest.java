import java.io.IOException;
import java.nio.file.Files;
import java.nio.file.Path;
import java.util.NoSuchElementException;
import java.util.regex.Matcher;
import java.util.regex.Pattern;

/**
 * Does the calls of README.md's example as they stand there, and compares their answers with those
 * that stand behind them. .ci/run starts it where the project is.
 */
public final class ReadmeTest {
    private static final Pattern BLOCK = Pattern.compile("(?ms)^```java\n(.*?)^```$");
    private static final Pattern TYPED = Pattern.compile("type\\(store, \"((?:[^\"\\\\]|\\\\.)*)\"\\);");
    private static final Pattern CALL =
            Pattern.compile("store\\.(\\w+)\\((?:(\\w+)(?:, (\\w+))?)?\\); +// (\\w+)(?:: .*)?");

    public static void main(String[] args) throws IOException {
        Matcher blocks = BLOCK.matcher(Files.readString(Path.of("README.md")));
        Due.due("the method that types is there", blocks.find() ? 1 : 0, 1);
        String own = Files.readString(Path.of("src/test/java/ReadmeTest.java"));
        String method = blocks.group(1).indent(4).replace("static void", "private static void");
        Due.due("the method that types is this test's", own.contains(method) ? 1 : 0, 1);
        Due.due("the example is there", blocks.find() ? 1 : 0, 1);
        example(blocks.group(1));
        Due.end();
    }

    private static void example(String code) {
        VaryStore store = new VaryStore();
        int calls = 0;
        for (String line : code.split("\n")) {
            Matcher typed = TYPED.matcher(line);
            Matcher call = CALL.matcher(line);
            if (typed.matches()) {
                type(store, typed.group(1).replace("\\n", "\n").replace("\\\"", "\""));
            } else if (call.matches()) {
                Due.dueText(line, answer(store, call.group(1), call.group(2), call.group(3)), call.group(4));
                calls++;
            } else if (!line.isEmpty() && !line.startsWith("//")) {
                Due.dueText("a line that is no call", line, "VaryStore store = new VaryStore();");
            }
        }
        Due.due("the example has calls", calls >= 20 ? 1 : 0, 1);
    }

    private static void type(VaryStore store, String text) {
        for (int from = 0; from < text.length(); from += 8) {
            int n = Math.min(8, text.length() - from);
            long word = 0;
            for (int k = 0; k < n; k++) {
                word = word << 8 | text.charAt(from + k);
            }
            store.type(word, n);
        }
    }

    private static String answer(VaryStore store, String name, String first, String second) {
        try {
            long one = first == null ? 0 : Long.decode(first.replace("L", ""));
            int two = second == null ? 0 : Integer.parseInt(second);
            return String.valueOf(answer(store, name, one, two));
        } catch (IllegalArgumentException | NoSuchElementException e) {
            return e.getClass().getSimpleName();
        }
    }

    private static Object answer(VaryStore store, String name, long one, int two) {
        switch (name) {
            case "type":
                return store.type(one, two);
            case "ask":
                return store.ask((int) one);
            case "keep":
                return store.keep((int) one);
            case "again":
                return store.again((int) one);
            case "fault":
                return store.fault();
            case "purge":
                return store.purge((int) one);
            case "pass":
                return store.pass((int) one);
            case "thing":
                return store.thing((int) one, two);
            case "things":
                return store.things();
            default:
                return "no call";
        }
    }
}
