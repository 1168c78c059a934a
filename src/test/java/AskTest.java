/** Promise 3, and what the terms say of FRESH, THE ONE and the WORDS of a REQUEST. */
public final class AskTest {
    public static void main(String[] args) {
        fresh();
        noCache();
        maxAge();
        minFresh();
        maxStale();
        strictThings();
        onlyIfCached();
        wordsThatDoNotCount();
        valuesAlike();
        theLatestIsTheOne();
        requestStays();
        Due.end();
    }

    private static VaryStore kept(String text, int seconds) {
        VaryStore x = new VaryStore();
        Due.due("keep " + text, Due.keep(x, 1, text), 1);
        if (seconds > 0) {
            Due.due("pass", Due.pass(x, seconds), seconds);
        }
        return x;
    }

    private static void asked(VaryStore x, String words, int want) {
        Due.due("ask for " + words, Due.ask(x, 1, "cache-control: " + words + "\n"), want);
    }

    private static void fresh() {
        VaryStore x = kept("cache-control: max-age=10\nage: 2\n", 7);
        asked(x, "", 1);
        Due.due("another path", Due.ask(x, 2, ""), 0);
        Due.pass(x, 1);
        asked(x, "", 3);
        asked(kept("cache-control: max-age=10, no-cache\n", 0), "", 3);
        asked(kept("etag: e\n", 0), "", 3);
    }

    private static void noCache() {
        VaryStore x = kept("cache-control: max-age=10\n", 0);
        asked(x, "no-cache", 3);
        asked(x, "No-Cache", 3);
        asked(x, "no-cache=1", 3);
        asked(x, "no-cache, max-stale", 3);
        asked(x, "no-cache, only-if-cached", 4);
    }

    private static void maxAge() {
        VaryStore x = kept("cache-control: max-age=10\n", 5);
        asked(x, "max-age=5", 1);
        asked(x, "max-age=4", 3);
        asked(x, "max-age=0", 3);
        asked(x, "max-age=4, max-age=9", 1);
        asked(x, "max-age=9, max-age=4", 3);
        asked(x, "max-age=4, max-age", 1);
        asked(x, "max-age=4, max-age=x", 3);
        asked(x, "max-age=4, max-stale", 3);
        asked(x, "max-age=4, only-if-cached", 4);
        Due.pass(x, 6);
        asked(x, "max-age=20", 3);
        asked(x, "max-age=20, max-stale", 2);
        asked(x, "max-age=11, max-stale", 2);
        asked(x, "max-age=10, max-stale", 3);
    }

    private static void minFresh() {
        VaryStore x = kept("cache-control: max-age=10\n", 5);
        asked(x, "min-fresh=4", 1);
        asked(x, "min-fresh=5", 3);
        asked(x, "min-fresh=999999", 3);
        asked(x, "min-fresh", 1);
        asked(x, "min-fresh=5, only-if-cached", 4);
        asked(x, "min-fresh=5, max-stale", 1);
        asked(x, "min-fresh=5, max-stale=0", 1);
        asked(x, "min-fresh=5, max-stale, max-age=4", 3);
        Due.pass(x, 5);
        asked(x, "min-fresh=0", 3);
        asked(x, "min-fresh=9, max-stale=1", 2);
    }

    private static void maxStale() {
        VaryStore x = kept("cache-control: max-age=10\n", 10);
        asked(x, "max-stale=0", 3);
        asked(x, "max-stale=1", 2);
        asked(x, "max-stale", 2);
        Due.pass(x, 3);
        asked(x, "max-stale=3", 3);
        asked(x, "max-stale=4", 2);
        asked(x, "MAX-STALE=4", 2);
        asked(x, "max-stale=1, max-stale", 2);
        asked(x, "max-stale, max-stale=1", 3);
        asked(x, "max-stale=4, max-stale=1234567", 2);
        asked(x, "max-stale=999999", 2);
        Due.pass(x, 100000);
        asked(x, "max-stale", 2);
        asked(kept("cache-control: max-age=10\n", 9), "max-stale", 1);
        asked(kept("etag: e\n", 0), "max-stale=1", 2);
    }

    private static void strictThings() {
        String[] own = {"no-cache, max-age=10", "must-revalidate, max-age=10",
            "proxy-revalidate, max-age=10", "s-maxage=10", "Must-Revalidate=3, max-age=10"};
        for (String words : own) {
            VaryStore x = kept("cache-control: " + words + "\n", 10);
            asked(x, "max-stale", 3);
            asked(x, "max-stale=100", 3);
            asked(x, "max-stale, only-if-cached", 4);
            Due.due("thing 6 of " + words, Due.thing(x, 0, 6), 1);
        }
        asked(kept("cache-control: must-revalidate, max-age=10\n", 9), "max-stale", 1);
        asked(kept("cache-control: must-revalidate, max-age=10\n", 9), "max-stale, min-fresh=5", 1);
        asked(kept("cache-control: no-cache, max-age=10\n", 0), "max-stale", 3);
        asked(kept("cache-control: s-maxage, max-age=10\n", 9), "", 1);
        asked(kept("cache-control: s-maxage, max-age=10\n", 10), "max-stale", 3);
    }

    private static void onlyIfCached() {
        VaryStore x = kept("cache-control: max-age=10\n", 0);
        asked(x, "only-if-cached", 1);
        Due.due("miss, refused", Due.ask(x, 2, "cache-control: only-if-cached\n"), 4);
        Due.pass(x, 10);
        asked(x, "only-if-cached", 4);
        asked(x, "only-if-cached, max-stale", 2);
        Due.due("two lines", Due.ask(x, 1, "cache-control: only-if-cached\nCache-Control: max-stale\n"), 2);
    }

    private static void wordsThatDoNotCount() {
        VaryStore x = kept("cache-control: max-age=10\n", 0);
        asked(x, "no-cache=", 1);
        asked(x, "no-cache =1", 1);
        asked(x, "no-cache= 1", 1);
        asked(x, "no-cache=1234567", 1);
        asked(x, "no-cache=-1", 1);
        asked(x, "no-cache=\"a\"", 1);
        asked(x, "no-cachex", 1);
        asked(x, "xno-cache", 1);
        asked(x, "no-cach", 1);
        asked(x, "no cache", 1);
        asked(x, " , ,no-cache , ", 3);
        asked(x, "no-cache=123456", 3);
        asked(x, "a;no-cache", 1);
        Due.due("another header", Due.ask(x, 1, "pragma: no-cache\n"), 1);
    }

    private static void valuesAlike() {
        VaryStore x = new VaryStore();
        Due.due("ask", Due.ask(x, 1, "lang: a, B\n"), 0);
        Due.due("keep", Due.keep(x, 1, "etag: e\nvary: LANG, enc\n"), 1);
        Due.due("same list", Due.ask(x, 1, "Lang:a ,,  B,\n"), 3);
        Due.due("on two lines", Due.ask(x, 1, "lang: a\nx: y\nlang: B\n"), 3);
        Due.due("other order", Due.ask(x, 1, "lang: B, a\n"), 0);
        Due.due("small letter", Due.ask(x, 1, "lang: a, b\n"), 0);
        Due.due("one less", Due.ask(x, 1, "lang: a\n"), 0);
        Due.due("one more", Due.ask(x, 1, "lang: a, B, c\n"), 0);
        Due.due("blank within", Due.ask(x, 1, "lang: a B\n"), 0);
        Due.due("not there", Due.ask(x, 1, ""), 0);
        Due.due("another there", Due.ask(x, 1, "lang: a, B\nenc:\n"), 0);
        Due.due("others do not count", Due.ask(x, 1, "lang: a, B\nencx: z\n"), 3);
        VaryStore y = new VaryStore();
        Due.due("ask with none", Due.ask(y, 1, "lang: ,\n"), 0);
        Due.due("keep with none", Due.keep(y, 1, "etag: e\nvary: lang\n"), 1);
        Due.due("an empty list", Due.ask(y, 1, "lang:\n"), 3);
        Due.due("not there is a value of its own", Due.ask(y, 1, ""), 0);
    }

    private static void theLatestIsTheOne() {
        VaryStore x = new VaryStore();
        Due.ask(x, 1, "lang: a\n");
        Due.due("keep by lang", Due.keep(x, 1, "etag: e\nvary: lang\n"), 1);
        Due.due("keep by nothing", Due.keep(x, 1, "cache-control: max-age=9\n"), 1);
        Due.due("the latest", Due.ask(x, 1, "lang: a\n"), 1);
        Due.due("keep by lang again", Due.keep(x, 1, "etag: f\nvary: lang\n"), 1);
        Due.due("the latest now", Due.ask(x, 1, "lang: a\n"), 3);
        Due.due("for another lang", Due.ask(x, 1, "lang: b\n"), 1);
        Due.due("made again", Due.again(x, 1, ""), 1);
        Due.due("the latest, made again", Due.ask(x, 1, "lang: a\n"), 1);
    }

    private static void requestStays() {
        VaryStore x = new VaryStore();
        Due.ask(x, 1, "lang: a\n");
        Due.due("wrong text", Due.ask(x, 1, "lang: b\nlang\n"), Due.THROWS);
        Due.due("wrong path", Due.ask(x, 16, "lang: b\n"), Due.THROWS);
        Due.due("keep", Due.keep(x, 1, "etag: e\nvary: lang\n"), 1);
        Due.due("kept by the request that stayed", Due.ask(x, 1, "lang: a\n"), 3);
        Due.due("a miss is a request", Due.ask(x, 2, "lang: b\n"), 0);
        Due.due("keep for it", Due.keep(x, 2, "etag: f\nvary: lang\n"), 1);
        Due.due("kept by it", Due.ask(x, 2, "lang: b\n"), 3);
    }
}
