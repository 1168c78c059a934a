import java.io.IOException;
import java.lang.reflect.Array;
import java.lang.reflect.Field;
import java.lang.reflect.Modifier;
import java.nio.file.Files;
import java.nio.file.Path;
import java.util.ArrayList;
import java.util.Collections;
import java.util.IdentityHashMap;
import java.util.List;
import java.util.Set;
import java.util.regex.Matcher;
import java.util.regex.Pattern;

/**
 * Those rules of ../shared/LANGUAGE.md that can be seen in the class's text and fields, roughly;
 * .ci/run starts it where the project is.
 */
public final class LanguageTest {
    private static final Path SOURCE = Path.of("src/main/java/VaryStore.java");

    public static void main(String[] args) throws IOException, IllegalAccessException {
        List<String> lines = Files.readAllLines(SOURCE);
        StringBuilder code = new StringBuilder();
        for (String line : lines) {
            boolean comment = line.strip().startsWith("*") || line.strip().startsWith("/*");
            code.append(comment ? "" : line.replaceAll("//.*", "")).append('\n');
        }
        String text = code.toString().replaceAll("\"[^\"\n]*\"", "\"\"");
        none(text, "4, imports", "import (?!java\\.util\\.(NoSuchElementException|ArrayList|List|Arrays|Iterator);)");
        none(text, "2, lambdas", "->|::");
        none(text, "3, generics and doubles of the library", "Map|Set<|Deque|Optional|Stream|Object|BigInteger");
        none(text, "4, Exact", "\\w+Exact\\(");
        none(text, "5, static state", "\\bstatic (?!final|\\w+ \\w+\\()");
        none(text, "5, static blocks", "static \\{");
        none(text, "6, exceptions", "throw new (?!(IllegalArgument|NoSuchElement)Exception\\(\"\"\\))");
        none(text, "6, try", "\\b(try|catch|finally|synchronized|assert)\\b");
        none(text, "6, of objects", "\\b(equals|hashCode|toString|getClass)\\(");
        none(text, "10, joined texts", "\"\" \\+|\\+ \"\"");
        none(text, "3, types", "\\b(double|float|Integer\\[|String\\[)");
        none(text, "12, what calls make", "(?m)^ {8,}+(?!private |throw |spare = new Thing\\(\\);).*\\bnew\\b");
        none(text, "13, the machine", "System\\.(?!arraycopy)|Thread|Random|Runtime|java\\.(io|nio|net|time)");
        Due.due("rule 11, classes", count(text, "(?m)^    private static final class ") <= 12 ? 1 : 0, 1);
        methodsStayShort(code.toString());
        fieldsStayFew();
        roomOfARun();
        privateNames(text);
        Due.end();
    }

    private static void none(String text, String rule, String pattern) {
        Matcher found = Pattern.compile(pattern).matcher(text);
        if (found.find()) {
            Due.due("rule " + rule + ": '" + found.group() + "'", 1, 0);
        }
    }

    private static int count(String text, String pattern) {
        return (int) Pattern.compile(pattern).matcher(text).results().count();
    }

    private static void methodsStayShort(String code) {
        Pattern method = Pattern.compile("(?ms)^( +)(?:\\w+ )+(\\w+)\\(([^)]*)\\)[\\w ]*\\{$(.*?)^\\1\\}$");
        int seen = 0;
        for (Matcher found = method.matcher(code); found.find(); seen++) {
            String name = found.group(2);
            Due.due("rule 11, parameters of " + name, found.group(3).split(",").length <= 7 ? 1 : 0, 1);
            Due.due("rule 11, lines of " + name, found.group(4).lines().count() <= 60 ? 1 : 0, 1);
        }
        Due.due("methods were seen", seen >= 40 ? 1 : 0, 1);
    }

    private static void fieldsStayFew() {
        for (Class<?> inside : VaryStore.class.getDeclaredClasses()) {
            Due.due("rule 11, fields of " + inside, fieldsOf(inside).size() <= 20 ? 1 : 0, 1);
        }
        Due.due("rule 11, fields", fieldsOf(VaryStore.class).size() <= 20 ? 1 : 0, 1);
    }

    private static List<Field> fieldsOf(Class<?> type) {
        List<Field> fields = new ArrayList<>();
        for (Field field : type.getDeclaredFields()) {
            if (!Modifier.isStatic(field.getModifiers())) {
                field.setAccessible(true);
                fields.add(field);
            }
        }
        return fields;
    }

    // Rule 12: calls make nothing but THINGS (and exceptions), so what a full object holds is what
    // its run has made: far below a room of 600000 objects and 7300000 fields and elements.
    private static void roomOfARun() throws IllegalAccessException {
        VaryStore x = new VaryStore();
        for (int i = 0; i < 60; i++) {
            Due.ask(x, 0, "a:" + i + "\n");
            Due.keep(x, 0, "etag:e\nvary:a\n");
        }
        Due.due("things", Due.things(x), 24);
        Set<Object> seen = Collections.newSetFromMap(new IdentityHashMap<>());
        long held = held(x, seen);
        Due.due("rule 12, " + held + " fields and elements are few", held <= 50000 ? 1 : 0, 1);
        Due.due("rule 12, " + seen.size() + " objects are few", seen.size() <= 500 ? 1 : 0, 1);
    }

    private static long held(Object part, Set<Object> seen) throws IllegalAccessException {
        if (part == null || !seen.add(part)) {
            return 0;
        }
        if (part.getClass().isArray()) {
            long held = Array.getLength(part);
            for (int i = 0; part instanceof Object[] && i < Array.getLength(part); i++) {
                held += held(Array.get(part, i), seen);
            }
            return held;
        }
        long held = 0;
        for (Field field : fieldsOf(part.getClass())) {
            held += 1 + (field.getType().isPrimitive() ? 0 : held(field.get(part), seen));
        }
        return held;
    }

    // Rule 1: "No private method bears the name of a public one."
    private static void privateNames(String text) {
        for (String name : new String[] {"type", "ask", "keep", "again", "fault", "purge", "pass", "thing", "things"}) {
            Due.due("rule 1, methods named " + name, count(text, "(?m)^ +[\\w ]+ " + name + "\\([^;]*\\{$"), 1);
        }
    }
}
