import java.util.ArrayList;
import java.util.LinkedHashMap;
import java.util.List;
import java.util.Locale;
import java.util.Map;
import java.util.Random;

/**
 * Runs of 512 calls, drawn with fixed seeds, on the class and on a plain model of the document
 * that is written with the Java library; and no exception but those that the document names.
 */
public final class ModelTest {
    private static final int RUNS = 6000;
    private static final int CALLS = 512;
    // As many as a text's typing may take and some, so that no act goes beyond the last call.
    private static final int LAST_LOOKS = 120;
    // The kinds of acts below this one ask, from it on they keep.
    private static final int KEEP = 8;

    public static void main(String[] args) {
        for (int seed = 0; seed < RUNS; seed++) {
            run(new Random(seed), "run " + seed, seed % 4 == 0);
        }
        for (int k = 0; k < COUNTS.length; k++) {
            Due.due("answer " + k + " of ask was seen " + COUNTS[k] + " times, which is enough:",
                    COUNTS[k] >= 500 ? 1 : 0, 1);
        }
        Due.end();
    }

    // How often each answer of ask was due, and (5) how often a thing went for want of room.
    private static final int[] COUNTS = new int[6];

    private static void run(Random random, String run, boolean crowded) {
        VaryStore x = new VaryStore();
        Model model = new Model();
        int paths = crowded ? 16 : 1 + random.nextInt(2);
        while (Due.callsOf(x) < CALLS - LAST_LOOKS) {
            act(x, model, random, run + " call " + Due.callsOf(x), crowded, paths);
            for (int k = 0; k < (crowded ? random.nextInt(2) : 2); k++) {
                look(x, model, random, run);
            }
        }
        while (Due.callsOf(x) < CALLS) {
            look(x, model, random, run);
        }
    }

    private static void act(VaryStore x, Model model, Random random, String call, boolean crowded, int paths) {
        int kind = crowded && random.nextBoolean() ? KEEP : random.nextInt(19);
        int path = random.nextInt(60) == 0 ? random.nextInt(40) - 12 : random.nextInt(paths);
        if (kind < 17) {
            String text = crowded && random.nextInt(4) > 0 ? shortText(kind, random) : textFor(kind, random);
            type(x, model, text, random);
            read(x, model, kind, path, call + " path " + path + " text " + text);
        } else if (kind == 17 && random.nextInt(12) == 0) {
            Due.due(call + " purge", Due.purge(x, path), model.purge(path));
        } else {
            int n = random.nextInt(12) == 0 ? random.nextInt(100100) - 50 : random.nextInt(8);
            Due.due(call + " pass", Due.pass(x, n), model.pass(n));
        }
    }

    private static void look(VaryStore x, Model model, Random random, String run) {
        String call = run + " call " + Due.callsOf(x);
        int kind = random.nextInt(12);
        if (kind == 0) {
            Due.due(call + " things", Due.things(x), model.things.size());
        } else if (kind == 1) {
            Due.due(call + " fault", Due.fault(x), model.fault);
        } else {
            int i = random.nextInt(model.things.size() + 2) - (random.nextInt(9) == 0 ? 1 : 0);
            int what = kind < 4 ? 99 + random.nextInt(8) : random.nextInt(9) - 1;
            Due.due(call + " thing " + i + ", " + what, Due.thing(x, i, what), model.thing(i, what));
        }
    }

    private static void read(VaryStore x, Model model, int kind, int path, String call) {
        if (kind < KEEP) {
            int want = model.ask(path);
            Due.due(call + " ask", Due.ask(x, path, ""), want);
            if (want >= 0) {
                COUNTS[want]++;
            }
        } else if (kind < 14) {
            Due.due(call + " keep", Due.keep(x, path, ""), model.keep(path));
        } else {
            Due.due(call + " again", Due.again(x, path, ""), model.again(path));
        }
    }

    /** Types in parts of any size, with a wrong part now and then. */
    private static void type(VaryStore x, Model model, String text, Random random) {
        int i = 0;
        while (i < text.length()) {
            int n = Math.min(text.length() - i, random.nextInt(20) == 0 ? 1 + random.nextInt(8) : 8);
            String part = text.substring(i, i + n);
            long above = n == 8 ? 0 : random.nextLong() << (8 * n);
            long word = Due.wordOf(part) | above;
            Due.due("type", Due.typed(x, word, n), model.type(part) ? 1 : 0);
            if (random.nextInt(40) == 0) {
                int letter = random.nextInt(256);
                String other = "ab" + (char) letter;
                boolean good = letter == 10 || (letter >= 32 && letter <= 126);
                Due.due("type " + letter, Due.typed(x, Due.wordOf(other), 3),
                        good && model.type(other) ? 1 : 0);
            }
            i += n;
        }
    }

    private static String pick(Random random, String... choices) {
        return choices[random.nextInt(choices.length)];
    }

    private static String shortText(int kind, Random random) {
        if (kind < KEEP) {
            return pick(random, "", "a:1\n", "a:2\n", "a:3\n");
        }
        return pick(random, "etag:e\n", "etag:f\n", "expires:9\ndate:1\n") + pick(random, "", "vary:a\n");
    }

    private static String textFor(int kind, Random random) {
        StringBuilder text = new StringBuilder();
        int lines = kind < KEEP ? random.nextInt(3) : 1 + random.nextInt(3);
        if (random.nextInt(100) == 0) {
            lines = 12;
        }
        for (int k = 0; k < lines; k++) {
            text.append(kind < KEEP ? requestLine(random) : thingLine(random));
        }
        if (random.nextInt(40) == 0) {
            text.append(pick(random, "x", "\n", "a b:c\n", ":\n", "abcdefghijklmnopq:r\n", "a:b"));
        }
        return text.toString();
    }

    private static String requestLine(Random random) {
        if (random.nextInt(3) == 0) {
            return pick(random, "a", "A", "b", "c") + ":" + pick(random, "", " ") + values(random) + "\n";
        }
        return pick(random, "cache-control", "Cache-Control") + ": " + words(random,
                "no-cache", "max-age", "min-fresh", "max-stale", "max-stale", "max-stale",
                "only-if-cached", "no-store", "Max-Age", "x") + "\n";
    }

    private static String thingLine(Random random) {
        switch (random.nextInt(8)) {
            case 0:
                return "etag:" + pick(random, "", " ", " e", " e", "e", "f", " e, f ", "E") + "\n";
            case 1:
                return pick(random, "vary", "VARY") + ":"
                        + pick(random, "", "a", "A", "a,b", "b, A", "a,a", "a", "b", "c", "*", "c,,", "a b", "a*") + "\n";
            case 2:
                return "age: " + number(random) + "\n";
            case 3:
                return "expires: " + number(random) + "\n";
            case 4:
                return "date: " + number(random) + "\n";
            default:
                return "cache-control:" + words(random, "no-cache", "max-age", "max-age", "max-age",
                        "max-age", "Max-Age", "s-maxage", "must-revalidate", "proxy-revalidate",
                        "no-store", "private", "y") + "\n";
        }
    }

    private static String number(Random random) {
        return pick(random, "0", "1", "2", "3", "5", "9", "12", "0020", "999999", "1234567", "", "x", "-1");
    }

    private static String values(Random random) {
        return pick(random, "", "1", "1", "1", "1,2", "1 , 2", "1,,2,", "2,1", "x", "X", ",", "1 2");
    }

    private static String words(Random random, String... names) {
        StringBuilder words = new StringBuilder();
        int count = random.nextInt(4);
        for (int k = 0; k < count; k++) {
            words.append(pick(random, "", " ")).append(pick(random, names));
            int with = random.nextInt(10);
            if (with < 6) {
                words.append(with == 0 ? " =" : "=").append(number(random));
            }
            words.append(pick(random, ",", ",", ", ,", " ,"));
        }
        return words.toString();
    }

    private static final class Kept {
        int path;
        String etag;
        List<String> vary;
        List<List<String>> values;
        Map<String, Integer> words;
        int life;
        int age;
        int since;
        int used;
    }

    private static final class Model {
        final List<Kept> things = new ArrayList<>();
        private String tape = "";
        private Map<String, String> request = new LinkedHashMap<>();
        private Map<String, String> told = new LinkedHashMap<>();
        int fault = -1;
        private int time = 0;
        private int uses = 0;

        boolean type(String part) {
            if (tape.length() + part.length() > 300) {
                return false;
            }
            tape += part;
            return true;
        }

        private boolean read(int path) {
            String text = tape;
            tape = "";
            told = new LinkedHashMap<>();
            fault = -1;
            int start = 0;
            while (start < text.length()) {
                int end = text.indexOf('\n', start);
                String line = end < 0 ? "" : text.substring(start, end);
                if (!line.matches("[A-Za-z0-9-]{1,16}:.*")) {
                    fault = start;
                    return false;
                }
                String name = line.substring(0, line.indexOf(':')).toLowerCase(Locale.ROOT);
                String value = line.substring(line.indexOf(':') + 1).strip();
                told.merge(name, value, (one, two) -> one + "," + two);
                start = end + 1;
            }
            return path >= 0 && path < 16;
        }

        private static List<String> list(String value) {
            if (value == null) {
                return null;
            }
            List<String> items = new ArrayList<>();
            for (String item : value.split(",")) {
                if (!item.isBlank()) {
                    items.add(item.strip());
                }
            }
            return items;
        }

        /** Each WORD with its NUMBER, or with null. */
        private static Map<String, Integer> words(String value) {
            Map<String, Integer> words = new LinkedHashMap<>();
            List<String> items = list(value);
            for (String item : items == null ? new ArrayList<String>() : items) {
                String word = item.toLowerCase(Locale.ROOT);
                if (word.matches("[a-z0-9-]{1,16}")) {
                    words.put(word, null);
                } else if (word.matches("[a-z0-9-]{1,16}=[0-9]{1,6}")) {
                    int equals = word.indexOf('=');
                    words.put(word.substring(0, equals), Integer.valueOf(word.substring(equals + 1)));
                }
            }
            return words;
        }

        private Integer number(String name) {
            String value = told.get(name);
            return value != null && value.matches("[0-9]{1,6}") ? Integer.valueOf(value) : null;
        }

        private List<List<String>> valuesFor(List<String> vary) {
            List<List<String>> values = new ArrayList<>();
            for (String name : vary) {
                values.add(list(request.get(name)));
            }
            return values;
        }

        private int age(Kept one) {
            return one.age + time - one.since;
        }

        private boolean fresh(Kept one) {
            return !one.words.containsKey("no-cache") && age(one) < one.life;
        }

        private static boolean strict(Kept one) {
            return one.words.containsKey("no-cache") || one.words.containsKey("s-maxage")
                    || one.words.containsKey("must-revalidate") || one.words.containsKey("proxy-revalidate");
        }

        private Kept theOne(int path) {
            Kept found = null;
            for (Kept one : things) {
                if (one.path == path && one.values.equals(valuesFor(one.vary))) {
                    found = one;
                }
            }
            return found;
        }

        private void use(Kept one) {
            one.used = ++uses;
        }

        int ask(int path) {
            if (!read(path)) {
                return Due.THROWS;
            }
            request = told;
            Kept one = theOne(path);
            Map<String, Integer> words = words(request.get("cache-control"));
            int answer = one == null ? 0 : serve(one, words);
            if (answer == 1 || answer == 2) {
                use(one);
            } else if (words.containsKey("only-if-cached")) {
                answer = 4;
            }
            return answer;
        }

        private int serve(Kept one, Map<String, Integer> words) {
            int age = age(one);
            boolean stale = words.containsKey("max-stale");
            boolean may = fresh(one);
            if (words.get("min-fresh") != null && !stale && age + words.get("min-fresh") >= one.life) {
                may = false;
            }
            if (stale && !strict(one)
                    && (words.get("max-stale") == null || age < one.life + words.get("max-stale"))) {
                may = true;
            }
            if (words.get("max-age") != null && age > words.get("max-age")) {
                may = false;
            }
            if (words.containsKey("no-cache")) {
                may = false;
            }
            return !may ? 3 : fresh(one) ? 1 : 2;
        }

        private void tell(Kept one) {
            Integer shared = one.words.get("s-maxage");
            Integer own = one.words.get("max-age");
            Integer expires = number("expires");
            Integer date = number("date");
            one.life = shared != null ? shared : own != null ? own
                    : expires != null && date != null && expires > date ? expires - date : 0;
            one.age = number("age") == null ? 0 : number("age");
            one.since = time;
            use(one);
        }

        int keep(int path) {
            if (!read(path)) {
                return Due.THROWS;
            }
            Kept one = new Kept();
            one.path = path;
            one.etag = told.getOrDefault("etag", "");
            one.vary = list(told.getOrDefault("vary", "").toLowerCase(Locale.ROOT));
            one.values = valuesFor(one.vary);
            one.words = words(told.get("cache-control"));
            tell(one);
            things.removeIf(old -> old.path == path && old.vary.equals(one.vary)
                    && old.values.equals(one.values));
            if (one.words.containsKey("no-store") || one.words.containsKey("private")
                    || one.vary.contains("*") || words(request.get("cache-control")).containsKey("no-store")
                    || (one.life == 0 && one.etag.isEmpty())) {
                return 0;
            }
            if (things.size() == 24) {
                Kept oldest = things.get(0);
                for (Kept other : things) {
                    oldest = other.used < oldest.used ? other : oldest;
                }
                things.remove(oldest);
                COUNTS[5]++;
            }
            things.add(one);
            return 1;
        }

        int again(int path) {
            if (!read(path)) {
                return Due.THROWS;
            }
            Kept one = theOne(path);
            String etag = told.getOrDefault("etag", "");
            if (one == null || (!etag.isEmpty() && !etag.equals(one.etag))) {
                return 0;
            }
            if (told.containsKey("cache-control")) {
                one.words = words(told.get("cache-control"));
            }
            tell(one);
            things.remove(one);
            things.add(one);
            return 1;
        }

        int purge(int path) {
            int before = things.size();
            things.removeIf(one -> one.path == path);
            return before - things.size();
        }

        int pass(int n) {
            if (n < 1 || n > 100000) {
                return Due.THROWS;
            }
            time += n;
            return time;
        }

        int thing(int i, int what) {
            if (i < 0 || i >= things.size()) {
                return Due.THROWS;
            }
            Kept one = things.get(i);
            if (what >= 100 && what < 100 + one.etag.length()) {
                return one.etag.charAt(what - 100);
            }
            if (what < 0 || what > 6) {
                return Due.THROWS;
            }
            int[] answers = {one.path, age(one), one.life, fresh(one) ? 1 : 0, one.vary.size(),
                one.etag.length(), strict(one) ? 1 : 0};
            return answers[what];
        }
    }
}
