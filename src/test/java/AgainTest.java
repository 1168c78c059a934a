/** Promises 5, 7 and 8. */
public final class AgainTest {
    public static void main(String[] args) {
        madeAgain();
        cacheControlStays();
        cacheControlChanges();
        nothingChanges();
        etagsOfBoth();
        valuesStay();
        whatWouldNotBeKept();
        purging();
        passing();
        Due.end();
    }

    private static VaryStore kept(String text) {
        VaryStore x = new VaryStore();
        Due.due("keep " + text, Due.keep(x, 1, text), 1);
        return x;
    }

    private static void dueThing(VaryStore x, int age, int life, int fresh, int strict) {
        int last = Due.things(x) - 1;
        Due.due("age", Due.thing(x, last, 1), age);
        Due.due("life", Due.thing(x, last, 2), life);
        Due.due("fresh", Due.thing(x, last, 3), fresh);
        Due.due("strict", Due.thing(x, last, 6), strict);
    }

    private static void madeAgain() {
        VaryStore x = kept("cache-control: max-age=10\nage: 4\netag: e\n");
        Due.keep(x, 2, "etag: other\n");
        Due.pass(x, 20);
        Due.due("again", Due.again(x, 1, "age: 3\netag: e\n"), 1);
        Due.dueText("it is the last", Due.etag(x, 1), "e");
        dueThing(x, 3, 10, 1, 0);
        Due.pass(x, 2);
        dueThing(x, 5, 10, 1, 0);
        Due.due("again without age", Due.again(x, 1, ""), 1);
        dueThing(x, 0, 10, 1, 0);
        Due.due("things", Due.things(x), 2);
    }

    private static void cacheControlStays() {
        VaryStore x = kept("cache-control: must-revalidate, max-age=10\n");
        Due.due("again", Due.again(x, 1, "expires: 9\ndate: 1\n"), 1);
        dueThing(x, 0, 10, 1, 1);
        VaryStore y = kept("cache-control: s-maxage=7, max-age=10\n");
        Due.due("again", Due.again(y, 1, ""), 1);
        dueThing(y, 0, 7, 1, 1);
        VaryStore z = kept("cache-control: no-cache\nexpires: 9\ndate: 1\n");
        Due.due("again", Due.again(z, 1, "expires: 20\ndate: 1\n"), 1);
        dueThing(z, 0, 19, 0, 1);
        Due.due("again, date is not told", Due.again(z, 1, "expires: 20\n"), 1);
        dueThing(z, 0, 0, 0, 1);
    }

    private static void cacheControlChanges() {
        VaryStore x = kept("cache-control: no-cache, must-revalidate, s-maxage=5, max-age=10\n");
        Due.due("again", Due.again(x, 1, "cache-control: max-age=6\n"), 1);
        dueThing(x, 0, 6, 1, 0);
        Due.due("again, empty", Due.again(x, 1, "cache-control:\nexpires: 5\ndate: 1\n"), 1);
        dueThing(x, 0, 4, 1, 0);
        Due.due("again, stays empty", Due.again(x, 1, ""), 1);
        dueThing(x, 0, 0, 0, 0);
        Due.due("again, strict", Due.again(x, 1, "cache-control: proxy-revalidate\n"), 1);
        dueThing(x, 0, 0, 0, 1);
    }

    private static void nothingChanges() {
        VaryStore x = kept("cache-control: max-age=10\netag: e\nvary: lang\n");
        Due.keep(x, 2, "etag: other\n");
        Due.pass(x, 3);
        Due.due("another etag", Due.again(x, 1, "etag: E\ncache-control: max-age=99\nage: 9\n"), 0);
        Due.due("no thing of the path", Due.again(x, 3, "age: 9\n"), 0);
        Due.due("a wrong text", Due.again(x, 1, "age: 9\nage\n"), Due.THROWS);
        Due.due("a wrong path", Due.again(x, 16, "age: 9\n"), Due.THROWS);
        Due.ask(x, 5, "lang: a\n");
        Due.due("not alike the latest request", Due.again(x, 1, "age: 9\n"), 0);
        Due.dueText("its place", Due.etag(x, 0), "e");
        Due.due("its age", Due.thing(x, 0, 1), 3);
        Due.due("its life", Due.thing(x, 0, 2), 10);
        Due.ask(x, 5, "");
        Due.due("alike the latest request", Due.again(x, 1, "age: 9\n"), 1);
        Due.due("its age now", Due.thing(x, 1, 1), 9);
    }

    private static void etagsOfBoth() {
        VaryStore x = kept("cache-control: max-age=10\n");
        Due.due("it has none", Due.again(x, 1, "etag: e\n"), 0);
        Due.due("both have none", Due.again(x, 1, "etag:  \n"), 1);
        Due.due("still none", Due.thing(x, 0, 5), 0);
        VaryStore y = kept("etag: a,b\n");
        Due.due("a part of it", Due.again(y, 1, "etag: a\n"), 0);
        Due.due("more than it", Due.again(y, 1, "etag: a,bc\n"), 0);
        Due.due("from two lines", Due.again(y, 1, "etag: a\netag: b\n"), 1);
        Due.due("none is told", Due.again(y, 1, "etag:\n"), 1);
        Due.dueText("its etag", Due.etag(y, 0), "a,b");
    }

    private static void valuesStay() {
        VaryStore x = new VaryStore();
        Due.ask(x, 1, "lang: a\nenc: z\n");
        Due.keep(x, 1, "cache-control: max-age=9\nvary: lang\n");
        Due.ask(x, 1, "lang: a\nenc: y\n");
        Due.due("again", Due.again(x, 1, "vary: enc, x\n"), 1);
        Due.due("its vary", Due.thing(x, 0, 4), 1);
        Due.due("alike", Due.ask(x, 1, "lang: a\n"), 1);
        Due.due("not alike", Due.ask(x, 1, "lang: b\nenc: y\n"), 0);
        Due.ask(x, 1, "lang: a\n");
        Due.due("keep takes its place", Due.keep(x, 1, "etag: e\nvary: lang\n"), 1);
        Due.due("things", Due.things(x), 1);
    }

    // The document names two cases of false, and these are none of them.
    private static void whatWouldNotBeKept() {
        VaryStore x = kept("cache-control: max-age=10\n");
        Due.due("no-store", Due.again(x, 1, "cache-control: no-store\n"), 1);
        Due.due("private", Due.again(x, 1, "cache-control: private\nvary: *\n"), 1);
        Due.ask(x, 1, "cache-control: no-store\n");
        Due.due("the request's no-store", Due.again(x, 1, ""), 1);
        Due.due("things", Due.things(x), 1);
        dueThing(x, 0, 0, 0, 0);
    }

    private static void purging() {
        VaryStore x = new VaryStore();
        for (int i = 0; i < 8; i++) {
            Due.ask(x, 0, "a: " + i + "\n");
            Due.keep(x, i % 3, "etag: " + i + "\nvary: a\n");
        }
        int[] paths = {-1, 16, 3, 15, -99, Integer.MIN_VALUE, Integer.MAX_VALUE};
        for (int path : paths) {
            Due.due("purge " + path, Due.purge(x, path), 0);
        }
        Due.due("things", Due.things(x), 8);
        Due.due("purge 1", Due.purge(x, 1), 3);
        Due.due("things", Due.things(x), 5);
        String[] want = {"0", "2", "3", "5", "6"};
        for (int i = 0; i < want.length; i++) {
            Due.dueText("thing " + i, Due.etag(x, i), want[i]);
        }
        Due.due("purge 1 again", Due.purge(x, 1), 0);
        Due.type(x, "etag: t\n");
        Due.due("purge 0", Due.purge(x, 0), 3);
        Due.due("the tape stays", Due.keep(x, 9, ""), 1);
        Due.due("purge 2", Due.purge(x, 2), 2);
        Due.dueText("the last", Due.etag(x, 0), "t");
        Due.due("ask for what went", Due.ask(x, 0, "a: 0\n"), 0);
        Due.due("keep anew", Due.keep(x, 0, "etag: u\n"), 1);
        Due.due("things", Due.things(x), 2);
    }

    private static void passing() {
        VaryStore x = new VaryStore();
        int[] seconds = {0, -1, 100001, Integer.MIN_VALUE, Integer.MAX_VALUE};
        for (int n : seconds) {
            Due.due("pass " + n, Due.pass(x, n), Due.THROWS);
        }
        Due.due("pass 1", Due.pass(x, 1), 1);
        Due.due("pass 100000", Due.pass(x, 100000), 100001);
    }
}
