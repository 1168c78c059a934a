import java.util.Map;
import java.util.NoSuchElementException;
import java.util.WeakHashMap;

/**
 * What the tests have in common: calls by text, and a count of the answers that are not due. Each
 * test makes its calls here, so that none relies on what the document leaves free behind the 512th.
 */
final class Due {
    /** Stands for the exception that the document names for a call. */
    static final int THROWS = -99;

    private static final int MOST_CALLS = 512;
    private static final Map<VaryStore, Integer> CALLS = new WeakHashMap<>();
    private static int wrong = 0;

    private Due() {
    }

    static void due(String call, long got, long want) {
        if (got != want) {
            wrong++;
            System.out.println(call + " answered " + got + ", due is " + want);
        }
    }

    static void end() {
        System.out.println(wrong == 0 ? "all answers are as due" : wrong + " answers are not as due");
        if (wrong != 0) {
            System.exit(1);
        }
    }

    private static void count(VaryStore x) {
        if (CALLS.merge(x, 1, Integer::sum) == MOST_CALLS + 1) {
            due("a test's fault, an object's call 513", 1, 0);
        }
    }

    /** For the one test of what no 512 calls can reach. */
    static void useBeyondTheLastCall(VaryStore x) {
        CALLS.put(x, MOST_CALLS + 1);
    }

    static int callsOf(VaryStore x) {
        return CALLS.getOrDefault(x, 0);
    }

    static long wordOf(String part) {
        long word = 0;
        for (int i = 0; i < part.length(); i++) {
            word = (word << 8) | part.charAt(i);
        }
        return word;
    }

    static void type(VaryStore x, String text) {
        for (int i = 0; i < text.length(); i += 8) {
            String part = text.substring(i, Math.min(text.length(), i + 8));
            due("type of '" + part + "'", typed(x, part), 1);
        }
    }

    /** One call of type with a part of 1 to 8 characters: 1 if it was taken. */
    static int typed(VaryStore x, String part) {
        return typed(x, wordOf(part), part.length());
    }

    static int typed(VaryStore x, long word, int n) {
        count(x);
        return x.type(word, n) ? 1 : 0;
    }

    /** A new object with one thing, or none if it was not kept as it should be. */
    static VaryStore kept(int path, String text) {
        VaryStore x = new VaryStore();
        due("keep " + text, keep(x, path, text), 1);
        return x;
    }

    /** A class below the one that the document names would be none of the class's own throwing. */
    private static int thrown(RuntimeException e, Class<?> want) {
        due("the exception " + e, e.getClass() == want ? 1 : 0, 1);
        return THROWS;
    }

    static int ask(VaryStore x, int path, String text) {
        type(x, text);
        count(x);
        try {
            return x.ask(path);
        } catch (IllegalArgumentException e) {
            return thrown(e, IllegalArgumentException.class);
        }
    }

    static int keep(VaryStore x, int path, String text) {
        type(x, text);
        count(x);
        try {
            return x.keep(path) ? 1 : 0;
        } catch (IllegalArgumentException e) {
            return thrown(e, IllegalArgumentException.class);
        }
    }

    static int again(VaryStore x, int path, String text) {
        type(x, text);
        count(x);
        try {
            return x.again(path) ? 1 : 0;
        } catch (IllegalArgumentException e) {
            return thrown(e, IllegalArgumentException.class);
        }
    }

    static int fault(VaryStore x) {
        count(x);
        return x.fault();
    }

    static int purge(VaryStore x, int path) {
        count(x);
        return x.purge(path);
    }

    static int things(VaryStore x) {
        count(x);
        return x.things();
    }

    static int pass(VaryStore x, int n) {
        count(x);
        try {
            return x.pass(n);
        } catch (IllegalArgumentException e) {
            return thrown(e, IllegalArgumentException.class);
        }
    }

    static int thing(VaryStore x, int i, int what) {
        count(x);
        try {
            return x.thing(i, what);
        } catch (NoSuchElementException e) {
            return thrown(e, NoSuchElementException.class);
        }
    }

    /** The etag of a thing; null if its letters end elsewhere than it says. */
    static String etag(VaryStore x, int i) {
        int length = thing(x, i, 5);
        StringBuilder letters = new StringBuilder();
        for (int k = 0; k < length; k++) {
            letters.append((char) thing(x, i, 100 + k));
        }
        return thing(x, i, 100 + length) == THROWS ? letters.toString() : null;
    }

    static void dueText(String call, String got, String want) {
        if (!want.equals(got)) {
            due(call + " gave '" + got + "' instead of '" + want + "':", 0, 1);
        }
    }
}
