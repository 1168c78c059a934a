/**
 * The boundaries of THE LATEST REQUEST, of what is ASKED for a PATH, of each WORD of the REQUEST's
 * cache-control, and of promise 3. Above each test stands the document's sentence.
 */
public final class AskEdgesTest {
    private static final String[] STRICT =
        {"no-cache", "must-revalidate", "proxy-revalidate", "s-maxage=10"};

    public static void main(String[] args) {
        paths();
        noneIsAMiss();
        theLatestOfSeveral();
        noCache();
        maxAge();
        minFresh();
        maxStaleWithoutNumber();
        maxStaleWithNumber();
        maxStaleOfStrictThings();
        minFreshWithMaxStale();
        onlyIfCached();
        severalWords();
        tapeIsEmptyThen();
        latestRequestStays();
        everyRequestIsTheLatest();
        Due.end();
    }

    /** The answer for a thing with LIFE 10 at an AGE, asked with WORDS. */
    private static int askedAt(int age, String own, String words) {
        VaryStore x = Due.kept(1, "etag: e\ncache-control: max-age=10, " + own + "\nage: 2\n");
        if (age > 2) {
            Due.pass(x, age - 2);
        }
        Due.due("age", Due.thing(x, 0, 1), age);
        return Due.ask(x, 1, "cache-control: " + words + "\n");
    }

    private static void asked(int age, String words, int want) {
        Due.due("ask at " + age + " with " + words, askedAt(age, "", words), want);
        Due.due("ask at " + age + " with " + words + " or not at all",
                askedAt(age, "", words + ",only-if-cached"), want == 3 ? 4 : want);
    }

    // "there is no such PATH"; "a PATH (0 .. 15)"
    private static void paths() {
        VaryStore x = new VaryStore();
        for (int path = 0; path < 16; path++) {
            Due.due("ask " + path, Due.ask(x, path, ""), 0);
            Due.keep(x, path, "cache-control: max-age=9\n");
            Due.due("ask " + path, Due.ask(x, path, ""), 1);
        }
        int[] wrong = {-1, 16, 17, -16, 32, 256, Integer.MIN_VALUE, Integer.MAX_VALUE};
        for (int path : wrong) {
            Due.due("ask " + path, Due.ask(x, path, ""), Due.THROWS);
            Due.due("fault", Due.fault(x), VaryStore.NONE);
        }
        Due.due("things", Due.things(x), 16);
    }

    // "Without one: MISS."
    private static void noneIsAMiss() {
        VaryStore x = new VaryStore();
        String[] words = {"", "no-cache", "max-age=0", "min-fresh=5", "max-stale", "max-stale=5", "no-store"};
        for (String word : words) {
            Due.due("nothing kept, " + word, Due.ask(x, 0, "cache-control: " + word + "\n"), 0);
        }
        Due.ask(x, 0, "a: 1\n");
        Due.keep(x, 0, "cache-control: max-age=9\nvary: a\n");
        Due.due("of this path, alike", Due.ask(x, 0, "a: 1\n"), 1);
        Due.due("of this path, not alike", Due.ask(x, 0, "a: 2\n"), 0);
        Due.due("alike, not of this path", Due.ask(x, 1, "a: 1\n"), 0);
        Due.purge(x, 0);
        Due.due("gone", Due.ask(x, 0, "a: 1\n"), 0);
    }

    // "the one that was KEPT latest (made again counts as KEPT) is THE ONE"
    private static void theLatestOfSeveral() {
        VaryStore x = new VaryStore();
        Due.ask(x, 0, "a: 1\nb: 1\n");
        Due.keep(x, 0, "cache-control: max-age=50\nvary: a\n");
        Due.keep(x, 0, "etag: stale\nvary: b\n");
        Due.keep(x, 0, "cache-control: max-age=50, no-cache\nvary: c\n");
        Due.due("all alike: by c", Due.ask(x, 0, "a: 1\nb: 1\ncache-control: max-stale\n"), 3);
        Due.due("a and b alike: by b", Due.ask(x, 0, "a: 1\nb: 1\nc: 1\ncache-control: max-stale\n"), 2);
        Due.due("a alike: by a", Due.ask(x, 0, "a: 1\nb: 2\nc: 1\ncache-control: max-stale\n"), 1);
        Due.due("used is not kept: by b", Due.ask(x, 0, "a: 1\nb: 1\nc: 1\ncache-control: max-stale\n"), 2);
        Due.due("ask for a", Due.ask(x, 0, "a: 1\nb: 2\nc: 1\n"), 1);
        Due.due("a is made again", Due.again(x, 0, ""), 1);
        Due.due("all alike: by a", Due.ask(x, 0, "a: 1\nb: 1\n"), 1);
        Due.due("b and c alike: by c", Due.ask(x, 0, "a: 2\nb: 1\ncache-control: max-stale\n"), 3);
        Due.keep(x, 0, "etag: stale\nvary: b\n");
        Due.due("b is kept anew", Due.ask(x, 0, "a: 2\nb: 1\ncache-control: max-stale\n"), 2);
    }

    // "no-cache: it must be made again."
    private static void noCache() {
        asked(2, "no-cache", 3);
        asked(2, "no-cache, max-stale", 3);
        asked(2, "no-cache, max-age=999999", 3);
        asked(12, "no-cache, max-stale=999999", 3);
        asked(2, "x", 1);
    }

    // "max-age=N: not with AGE above N."
    private static void maxAge() {
        for (int n = 3; n <= 8; n++) {
            asked(5, "max-age=" + n, n >= 5 ? 1 : 3);
            asked(5, "max-age=" + n + ", max-stale", n >= 5 ? 1 : 3);
            asked(15, "max-age=1" + n + ", max-stale", n >= 5 ? 2 : 3);
            asked(15, "max-age=1" + n, 3);
        }
        asked(5, "max-age=0", 3);
        asked(5, "max-age=999999", 1);
        asked(10, "max-age=999999", 3);
        VaryStore x = Due.kept(0, "cache-control: max-age=10\n");
        Due.due("age 0 is not above 0", Due.ask(x, 0, "cache-control: max-age=0\n"), 1);
        Due.pass(x, 1);
        Due.due("age 1 is above 0", Due.ask(x, 0, "cache-control: max-age=0\n"), 3);
        Due.due("without a number no bound", Due.ask(x, 0, "cache-control: max-age\n"), 1);
    }

    // "min-fresh=N: only if AGE + N is below LIFE."
    private static void minFresh() {
        for (int n = 0; n <= 8; n++) {
            asked(5, "min-fresh=" + n, 5 + n < 10 ? 1 : 3);
        }
        asked(9, "min-fresh=0", 1);
        asked(9, "min-fresh=1", 3);
        asked(10, "min-fresh=0", 3);
        asked(2, "min-fresh=999999", 3);
        asked(9, "min-fresh", 1);
        asked(10, "min-fresh", 3);
    }

    // "max-stale ..: also if it is not FRESH .., without N whatever"
    private static void maxStaleWithoutNumber() {
        asked(9, "max-stale", 1);
        asked(10, "max-stale", 2);
        asked(11, "max-stale", 2);
        asked(100002, "max-stale", 2);
        VaryStore x = Due.kept(0, "etag: e\nage: 999999\n");
        for (int i = 0; i < 50; i++) {
            Due.pass(x, 100000);
        }
        Due.due("whatever its age", Due.ask(x, 0, "cache-control: max-stale\n"), 2);
        Due.due("with most seconds", Due.ask(x, 0, "cache-control: max-stale=999999\n"), 3);
        asked(9, "max-stalex", 1);
        asked(10, "max-stalex", 3);
        asked(10, "max-stale=", 3);
        asked(10, "max-stale=1234567", 3);
    }

    // "max-stale=N: .. with N if AGE is below LIFE + N"
    private static void maxStaleWithNumber() {
        for (int n = 0; n <= 8; n++) {
            asked(15, "max-stale=" + n, 15 < 10 + n ? 2 : 3);
            asked(9, "max-stale=" + n, 1);
        }
        asked(10, "max-stale=0", 3);
        asked(10, "max-stale=1", 2);
        asked(11, "max-stale=1", 3);
        asked(100002, "max-stale=99993", 2);
        asked(100002, "max-stale=99992", 3);
        VaryStore x = Due.kept(0, "etag: e\n");
        Due.due("life 0, by 0", Due.ask(x, 0, "cache-control: max-stale=0\n"), 3);
        Due.due("life 0, by 1", Due.ask(x, 0, "cache-control: max-stale=1\n"), 2);
        Due.pass(x, 1);
        Due.due("life 0 at 1, by 1", Due.ask(x, 0, "cache-control: max-stale=1\n"), 3);
        Due.due("life 0 at 1, by 2", Due.ask(x, 0, "cache-control: max-stale=2\n"), 2);
    }

    // "(but not with no-cache, must-revalidate, proxy-revalidate or s-maxage of its own)"
    private static void maxStaleOfStrictThings() {
        String[] words = {"max-stale", "max-stale=1", "max-stale=999999"};
        for (String own : STRICT) {
            int fresh = own.equals("no-cache") ? 3 : 1;
            for (String word : words) {
                Due.due(own + " at 9, " + word, askedAt(9, own, word), fresh);
                Due.due(own + " at 10, " + word, askedAt(10, own, word), 3);
                Due.due(own + " at 10, " + word, askedAt(10, own, word + ", only-if-cached"), 4);
            }
            Due.due(own + " at 9", askedAt(9, own, ""), fresh);
            Due.due(own + " at 10", askedAt(10, own, ""), 3);
        }
        String[] others = {"x", "revalidate", "must-revalidate=x", "proxy-revalidate=", "s-maxage=1234567"};
        for (String own : others) {
            Due.due(own + " at 10", askedAt(10, own, "max-stale"), 2);
        }
        // Only what is its own counts, not the REQUEST's.
        for (String own : STRICT) {
            Due.due("the request's " + own, askedAt(10, "", "max-stale, " + own), own.equals("no-cache") ? 3 : 2);
        }
    }

    // "(min-fresh does not count then: what is FRESH is served as FRESH)"
    private static void minFreshWithMaxStale() {
        String[] words = {"max-stale", "max-stale=0", "max-stale=1", "max-stale=999999"};
        for (String word : words) {
            asked(5, "min-fresh=4, " + word, 1);
            asked(5, "min-fresh=5, " + word, 1);
            asked(9, word + ", min-fresh=999999", 1);
            asked(10, "min-fresh=0, " + word, word.equals("max-stale=0") ? 3 : 2);
            asked(10, "min-fresh=999999, " + word, word.equals("max-stale=0") ? 3 : 2);
        }
        asked(5, "min-fresh=5, max-stale=x", 3);
    }

    // "only-if-cached: instead of MISS or AGAIN: REFUSED."
    private static void onlyIfCached() {
        VaryStore x = new VaryStore();
        Due.due("instead of MISS", Due.ask(x, 0, "cache-control: only-if-cached\n"), 4);
        Due.due("nothing is kept by it", Due.things(x), 0);
        Due.due("keep", Due.keep(x, 0, "cache-control: max-age=5\n"), 1);
        Due.due("fresh", Due.ask(x, 0, "cache-control: only-if-cached\n"), 1);
        Due.pass(x, 5);
        Due.due("instead of AGAIN", Due.ask(x, 0, "cache-control: only-if-cached\n"), 4);
        Due.due("not fresh", Due.ask(x, 0, "cache-control: only-if-cached, max-stale\n"), 2);
        Due.due("other words", Due.ask(x, 0, "cache-control: only-if-cachedx\n"), 3);
        Due.due("other words", Due.ask(x, 1, "cache-control: only-if-cache\n"), 0);
        Due.due("a refused request is the latest", Due.ask(x, 2, "a: 1\ncache-control: only-if-cached\n"), 4);
        Due.due("keep for it", Due.keep(x, 2, "etag: e\nvary: a\n"), 1);
        Due.due("kept by it", Due.ask(x, 2, "a: 1\n"), 3);
    }

    // Each WORD puts its own bound: all must hold.
    private static void severalWords() {
        asked(5, "max-age=5, min-fresh=4", 1);
        asked(5, "max-age=4, min-fresh=4", 3);
        asked(5, "max-age=5, min-fresh=5", 3);
        asked(5, "max-age=4, min-fresh=5", 3);
        asked(11, "max-age=11, max-stale=2", 2);
        asked(11, "max-age=11, max-stale=1", 3);
        asked(11, "max-age=10, max-stale=2", 3);
        asked(11, "max-age=10, max-stale=1", 3);
        asked(5, "max-age=4, min-fresh=5, max-stale", 3);
    }

    // "The tape (which is empty then)": after each answer, and after each exception.
    private static void tapeIsEmptyThen() {
        String[] texts = {"", "a: 1\n", "cache-control: only-if-cached\n", "bad\n", "bad", "a: 1\nb"};
        int[] paths = {0, 1, 15, 16, -1};
        for (String text : texts) {
            for (int path : paths) {
                VaryStore x = Due.kept(1, "cache-control: max-age=5\n");
                Due.ask(x, path, text);
                Due.due("the tape is empty behind " + text, Due.keep(x, 9, "etag: e\n"), 1);
                Due.due("a whole tape has room", Due.keep(x, 9, "etag:" + "e".repeat(294) + "\n"), 1);
            }
        }
    }

    // "(the LATEST REQUEST stays)": with its VALUES and its no-store.
    private static void latestRequestStays() {
        VaryStore x = new VaryStore();
        Due.ask(x, 0, "a: 1\n");
        Due.due("a wrong text", Due.ask(x, 0, "a: 2\ncache-control: no-store\nbad\n"), Due.THROWS);
        Due.due("its fault", Due.fault(x), 29);
        Due.due("a text without end", Due.ask(x, 0, "a: 2\ncache-control: no-store"), Due.THROWS);
        Due.due("its fault", Due.fault(x), 5);
        Due.due("a wrong path", Due.ask(x, 16, "a: 2\ncache-control: no-store\n"), Due.THROWS);
        Due.due("no fault", Due.fault(x), VaryStore.NONE);
        Due.due("a wrong path", Due.ask(x, -1, "a: 2\ncache-control: no-store\n"), Due.THROWS);
        Due.due("keep", Due.keep(x, 0, "etag: e\nvary: a\n"), 1);
        Due.due("kept by a: 1", Due.ask(x, 0, "a: 1\ncache-control: no-store\n"), 3);
        Due.due("a wrong text", Due.ask(x, 0, "a: 1\nbad\n"), Due.THROWS);
        Due.due("a wrong path", Due.ask(x, 16, "a: 1\n"), Due.THROWS);
        Due.due("no-store stays", Due.keep(x, 1, "etag: e\n"), 0);
        Due.due("the one of the request that stayed", Due.again(x, 0, ""), 1);
        VaryStore y = new VaryStore();
        Due.due("a wrong text at first", Due.ask(y, 0, "a: 1\nbad"), Due.THROWS);
        Due.due("a wrong path at first", Due.ask(y, 99, "a: 1\n"), Due.THROWS);
        Due.due("keep", Due.keep(y, 0, "etag: e\nvary: a\n"), 1);
        Due.due("kept as if there were no lines", Due.ask(y, 0, ""), 3);
    }

    // "THE LATEST REQUEST: what ask() read.": whatever its answer and its PATH; not what keep() and
    // again() read.
    private static void everyRequestIsTheLatest() {
        String[] requests = {"a: 2\n", "a: 2\ncache-control: no-cache\n", "a: 2\ncache-control: only-if-cached\n"};
        for (String request : requests) {
            VaryStore x = new VaryStore();
            Due.ask(x, 0, "a: 1\n");
            Due.ask(x, 5, request);
            Due.due("keep", Due.keep(x, 0, "etag: e\nvary: a\n"), 1);
            Due.due("by the first", Due.ask(x, 0, "a: 1\n"), 0);
            Due.due("by the latest", Due.ask(x, 0, "a: 2\n"), 3);
        }
        VaryStore x = new VaryStore();
        Due.ask(x, 0, "a: 1\n");
        Due.keep(x, 0, "a: 2\netag: e\n");
        Due.again(x, 0, "a: 3\n");
        Due.due("keep", Due.keep(x, 0, "etag: e\nvary: a\n"), 1);
        Due.purge(x, 9);
        Due.due("by the latest request", Due.ask(x, 0, "a: 1\ncache-control: max-stale\n"), 2);
        Due.due("things", Due.things(x), 2);
        Due.due("an empty request", Due.ask(x, 0, ""), 3);
        Due.due("keep", Due.keep(x, 0, "etag: f\nvary: a\n"), 1);
        Due.due("things", Due.things(x), 3);
    }
}
