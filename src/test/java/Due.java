import java.util.NoSuchElementException;

/** What the tests have in common: calls by text, and a count of the answers that are not due. */
final class Due {
    /** Stands for the exception that the document names for a call. */
    static final int THROWS = -99;

    private static int wrong = 0;

    private Due() {
    }

    static void due(String call, long got, long want) {
        if (got != want) {
            wrong++;
            System.out.println(call + " answered " + got + ", due is " + want);
        }
    }

    static void end() {
        System.out.println(wrong == 0 ? "all answers are as due" : wrong + " answers are not as due");
        if (wrong != 0) {
            System.exit(1);
        }
    }

    static long wordOf(String part) {
        long word = 0;
        for (int i = 0; i < part.length(); i++) {
            word = (word << 8) | part.charAt(i);
        }
        return word;
    }

    static void type(VaryStore x, String text) {
        for (int i = 0; i < text.length(); i += 8) {
            String part = text.substring(i, Math.min(text.length(), i + 8));
            due("type of '" + part + "'", x.type(wordOf(part), part.length()) ? 1 : 0, 1);
        }
    }

    /** One call of type with a part of 1 to 8 characters: 1 if it was taken. */
    static int typed(VaryStore x, String part) {
        return x.type(wordOf(part), part.length()) ? 1 : 0;
    }

    /** A new object with one thing, or none if it was not kept as it should be. */
    static VaryStore kept(int path, String text) {
        VaryStore x = new VaryStore();
        due("keep " + text, keep(x, path, text), 1);
        return x;
    }

    /** A class below the one that the document names would be none of the class's own throwing. */
    private static int thrown(RuntimeException e, Class<?> want) {
        due("the exception " + e, e.getClass() == want ? 1 : 0, 1);
        return THROWS;
    }

    static int ask(VaryStore x, int path, String text) {
        type(x, text);
        try {
            return x.ask(path);
        } catch (IllegalArgumentException e) {
            return thrown(e, IllegalArgumentException.class);
        }
    }

    static int keep(VaryStore x, int path, String text) {
        type(x, text);
        try {
            return x.keep(path) ? 1 : 0;
        } catch (IllegalArgumentException e) {
            return thrown(e, IllegalArgumentException.class);
        }
    }

    static int again(VaryStore x, int path, String text) {
        type(x, text);
        try {
            return x.again(path) ? 1 : 0;
        } catch (IllegalArgumentException e) {
            return thrown(e, IllegalArgumentException.class);
        }
    }

    static int pass(VaryStore x, int n) {
        try {
            return x.pass(n);
        } catch (IllegalArgumentException e) {
            return thrown(e, IllegalArgumentException.class);
        }
    }

    static int thing(VaryStore x, int i, int what) {
        try {
            return x.thing(i, what);
        } catch (NoSuchElementException e) {
            return thrown(e, NoSuchElementException.class);
        }
    }

    /** The etag of a thing; null if its letters end elsewhere than it says. */
    static String etag(VaryStore x, int i) {
        int length = thing(x, i, 5);
        StringBuilder letters = new StringBuilder();
        for (int k = 0; k < length; k++) {
            letters.append((char) thing(x, i, 100 + k));
        }
        return thing(x, i, 100 + length) == THROWS ? letters.toString() : null;
    }

    static void dueText(String call, String got, String want) {
        if (!want.equals(got)) {
            due(call + " gave '" + got + "' instead of '" + want + "':", 0, 1);
        }
    }
}
