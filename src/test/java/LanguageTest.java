import java.io.IOException;
import java.nio.file.Files;
import java.nio.file.Path;
import java.util.List;
import java.util.regex.Matcher;
import java.util.regex.Pattern;

/**
 * Those rules of ../shared/LANGUAGE.md that can be seen in the class's text, roughly; .ci/run starts
 * it where the project is.
 */
public final class LanguageTest {
    private static final Path SOURCE = Path.of("src/main/java/VaryStore.java");

    public static void main(String[] args) throws IOException {
        List<String> lines = Files.readAllLines(SOURCE);
        StringBuilder code = new StringBuilder();
        for (String line : lines) {
            boolean comment = line.strip().startsWith("*") || line.strip().startsWith("/*");
            code.append(comment ? "" : line.replaceAll("//.*", "")).append('\n');
        }
        String text = code.toString().replaceAll("\"[^\"\n]*\"", "\"\"");
        none(text, "4, imports", "import (?!java\\.util\\.(NoSuchElementException|ArrayList|List|Arrays|Iterator);)");
        none(text, "2, lambdas", "->|::");
        none(text, "3, generics and doubles of the library", "Map|Set<|Deque|Optional|Stream|Object|BigInteger");
        none(text, "4, Exact", "\\w+Exact\\(");
        none(text, "5, static state", "\\bstatic (?!final|\\w+ \\w+\\()");
        none(text, "5, static blocks", "static \\{");
        none(text, "6, exceptions", "throw new (?!(IllegalArgument|NoSuchElement)Exception\\(\"\"\\))");
        none(text, "6, try", "\\b(try|catch|finally|synchronized|assert)\\b");
        none(text, "6, of objects", "\\b(equals|hashCode|toString|getClass)\\(");
        none(text, "10, joined texts", "\"\" \\+|\\+ \"\"");
        none(text, "13, the machine", "System\\.(?!arraycopy)|Thread|Random|Runtime|java\\.(io|nio|net|time)");
        Due.due("11, classes", count(text, "(?m)^    private static final class ") <= 12 ? 1 : 0, 1);
        methodsStayShort(code.toString());
        privateNames(text);
        Due.end();
    }

    private static void none(String text, String rule, String pattern) {
        Matcher found = Pattern.compile(pattern).matcher(text);
        if (found.find()) {
            Due.due("rule " + rule + ": '" + found.group() + "'", 1, 0);
        }
    }

    private static int count(String text, String pattern) {
        return (int) Pattern.compile(pattern).matcher(text).results().count();
    }

    private static void methodsStayShort(String code) {
        Pattern method = Pattern.compile("(?ms)^( +)(?:\\w+ )+(\\w+)\\(([^)]*)\\)[\\w ]*\\{$(.*?)^\\1\\}$");
        int seen = 0;
        for (Matcher found = method.matcher(code); found.find(); seen++) {
            String name = found.group(2);
            Due.due("rule 11, parameters of " + name, found.group(3).split(",").length <= 7 ? 1 : 0, 1);
            Due.due("rule 11, lines of " + name, found.group(4).lines().count() <= 60 ? 1 : 0, 1);
        }
        Due.due("methods were seen", seen >= 40 ? 1 : 0, 1);
    }

    // Rule 1: "No private method bears the name of a public one."
    private static void privateNames(String text) {
        for (String name : new String[] {"type", "ask", "keep", "again", "fault", "purge", "pass", "thing", "things"}) {
            Due.due("rule 1, methods named " + name, count(text, "(?m)^ +[\\w ]+ " + name + "\\([^;]*\\{$"), 1);
        }
    }
}
