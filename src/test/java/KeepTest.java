/** Promises 4, 9 and 10, and what the terms say of LIFE, AGE, etag, VARY and KEPT. */
public final class KeepTest {
    public static void main(String[] args) {
        lives();
        ages();
        etags();
        varies();
        notKept();
        takesThePlace();
        refusedGoes();
        atMostTwentyFour();
        usedStay();
        usedLongAgoGoes();
        wrongThings();
        Due.end();
    }

    private static VaryStore kept(String text) {
        VaryStore x = new VaryStore();
        Due.due("keep " + text, Due.keep(x, 5, text), 1);
        Due.due("things", Due.things(x), 1);
        Due.due("path", Due.thing(x, 0, 0), 5);
        return x;
    }

    private static void life(String lines, int want) {
        VaryStore x = kept("etag: e\n" + lines);
        Due.due("life of " + lines, Due.thing(x, 0, 2), want);
        Due.due("fresh of " + lines, Due.thing(x, 0, 3), want > 0 ? 1 : 0);
    }

    private static void lives() {
        life("", 0);
        life("cache-control: max-age=999999\n", 999999);
        life("cache-control: max-age=0000\n", 0);
        life("cache-control: max-age=1234567\n", 0);
        life("cache-control: max-age=\n", 0);
        life("cache-control: max-age=1x\n", 0);
        life("cache-control: Max-Age=007\n", 7);
        life("cache-control: max-age=3, max-age=4\n", 4);
        life("cache-control: max-age=3, max-age=-4\n", 3);
        life("cache-control: max-age=3, max-age\nexpires: 9\ndate: 1\n", 8);
        life("cache-control: max-age=3\nCACHE-control: max-age=5\n", 5);
        life("cache-control: s-maxage=3, max-age=5\nexpires: 9\ndate: 1\n", 3);
        life("cache-control: s-maxage=0, max-age=5\n", 0);
        life("cache-control: max-age=5, s-maxage\n", 5);
        life("cache-control: max-age=0\nexpires: 9\ndate: 1\n", 0);
        life("expires: 30\ndate: 10\n", 20);
        life("expires: 10\ndate: 30\n", 0);
        life("expires: 10\ndate: 10\n", 0);
        life("expires: 10\n", 0);
        life("date: 10\n", 0);
        life("expires: 999999\ndate: 0\n", 999999);
        life("expires: 1000000\ndate: 0\n", 0);
        life("expires: 10\nexpires: 11\ndate: 0\n", 0);
        life("expires: 10\ndate: 1 2\n", 0);
        life("expires: 10\ndate:\n", 0);
        life("expires: 10\nexpires:\ndate: 1\n", 0);
        VaryStore x = kept("etag: e\ncache-control: no-cache, max-age=9\n");
        Due.due("no-cache is never fresh", Due.thing(x, 0, 3), 0);
        Due.due("but has a life", Due.thing(x, 0, 2), 9);
    }

    private static void age(String lines, int want) {
        VaryStore x = kept("cache-control: max-age=10\n" + lines);
        Due.due("age of " + lines, Due.thing(x, 0, 1), want);
    }

    private static void ages() {
        age("", 0);
        age("age: 3\n", 3);
        age("AGE:999999\n", 999999);
        age("age: 1000000\n", 0);
        age("age: x\n", 0);
        age("age: -1\n", 0);
        age("age:\n", 0);
        age("age: 3\nage: 3\n", 0);
        VaryStore x = kept("cache-control: max-age=10\nage: 4\n");
        Due.due("pass", Due.pass(x, 5), 5);
        Due.due("age with the time", Due.thing(x, 0, 1), 9);
        Due.due("fresh", Due.thing(x, 0, 3), 1);
        Due.due("pass", Due.pass(x, 1), 6);
        Due.due("not fresh", Due.thing(x, 0, 3), 0);
        Due.due("may be served", Due.thing(x, 0, 6), 0);
        Due.due("keep later", Due.keep(x, 6, "etag: e\nage: 1\n"), 1);
        Due.due("pass", Due.pass(x, 100000), 100006);
        Due.due("age of the later one", Due.thing(x, 1, 1), 100001);
        Due.due("age of the first one", Due.thing(x, 0, 1), 100010);
    }

    private static void etag(String lines, String want) {
        VaryStore x = kept("cache-control: max-age=10\n" + lines);
        Due.dueText("etag of " + lines, Due.etag(x, 0), want);
    }

    private static void etags() {
        etag("", "");
        etag("etag:\n", "");
        etag("etag:   \n", "");
        etag("eTag:  \"a B\"  \n", "\"a B\"");
        etag("etag: a:b,  c\n", "a:b,  c");
        etag("etag: a \netag: b\n", "a,b");
        etag("etag: a\nage: 1\netag:\nETAG: b\n", "a,,b");
        etag("etag:\netag:\n", ",");
        VaryStore x = new VaryStore();
        Due.due("no letters, no life", Due.keep(x, 0, "etag:\n"), 0);
        Due.due("no letters, life", Due.keep(x, 0, "etag:\nexpires: 1\ndate: 0\n"), 1);
    }

    private static void vary(String lines, int want) {
        VaryStore x = kept("etag: e\n" + lines);
        Due.due("names in " + lines, Due.thing(x, 0, 4), want);
    }

    private static void varies() {
        vary("", 0);
        vary("vary:\n", 0);
        vary("vary: , ,\n", 0);
        vary("vary: a\n", 1);
        vary("vary: a, b ,c\nVary: d\n", 4);
        vary("vary: a, a\n", 2);
        vary("vary:" + "a,".repeat(142) + "b\n", 143);
        VaryStore x = new VaryStore();
        Due.ask(x, 1, "b: 1\n");
        Due.due("keep by many names", Due.keep(x, 1, "etag:e\nvary:" + "a,".repeat(142) + "b\n"), 1);
        Due.due("the last name counts", Due.ask(x, 1, "b: 2\n"), 0);
        Due.due("all names are alike", Due.ask(x, 1, "b: 1\n"), 3);
    }

    private static void refused(String request, String text) {
        VaryStore x = new VaryStore();
        Due.due("ask", Due.ask(x, 0, request), 0);
        Due.due("keep " + text + " for " + request, Due.keep(x, 0, text), 0);
        Due.due("things", Due.things(x), 0);
        Due.due("the tape is empty", Due.keep(x, 0, ""), 0);
    }

    private static void notKept() {
        refused("", "");
        refused("", "age: 1\n");
        refused("", "cache-control: max-age=0\n");
        refused("", "cache-control: no-store, max-age=5\netag: e\n");
        refused("", "cache-control: max-age=5, Private\netag: e\n");
        refused("", "cache-control: private=1, max-age=5\n");
        refused("", "cache-control: max-age=5\nvary: *\n");
        refused("", "cache-control: max-age=5\nvary: a, *, b\n");
        refused("", "cache-control: max-age=5\nvary: a\nvary: *\n");
        refused("cache-control: no-store\n", "cache-control: max-age=5\netag: e\n");
        refused("cache-control: a\ncache-control: NO-STORE\n", "etag: e\n");
        kept("cache-control: no-stor, privat, private=\"x\", max-age=5\n");
        kept("cache-control: max-age=1\n");
        kept("etag: e\nvary: a*\n");
    }

    private static void takesThePlace() {
        VaryStore x = new VaryStore();
        Due.ask(x, 0, "a: 1, 2\nb: 3\n");
        Due.due("keep", Due.keep(x, 0, "etag: one\nvary: a, B\n"), 1);
        Due.due("another path", Due.keep(x, 1, "etag: two\nvary: a, b\n"), 1);
        Due.due("another vary", Due.keep(x, 0, "etag: three\nvary: b, a\n"), 1);
        Due.due("another vary, shorter", Due.keep(x, 0, "etag: four\nvary: a\n"), 1);
        Due.ask(x, 0, "a: 1\nb: 3\n");
        Due.due("other values", Due.keep(x, 0, "etag: five\nvary: a, b\n"), 1);
        Due.due("things", Due.things(x), 5);
        Due.ask(x, 0, "a: 1,2,\nb: 3\n");
        Due.due("the same", Due.keep(x, 0, "etag: six\nvary: A,b,,\n"), 1);
        Due.due("things", Due.things(x), 5);
        String[] want = {"two", "three", "four", "five", "six"};
        for (int i = 0; i < want.length; i++) {
            Due.dueText("thing " + i, Due.etag(x, i), want[i]);
        }
    }

    private static void refusedGoes() {
        VaryStore x = new VaryStore();
        Due.ask(x, 0, "a: 1\n");
        Due.keep(x, 0, "etag: one\nvary: a\n");
        Due.keep(x, 1, "etag: two\nvary: a\n");
        Due.keep(x, 0, "etag: three\n");
        Due.due("vary *", Due.keep(x, 0, "etag: e\nvary: *\n"), 0);
        Due.due("nothing goes", Due.things(x), 3);
        Due.due("no-store", Due.keep(x, 0, "cache-control: no-store\nvary: A\n"), 0);
        Due.due("one goes", Due.things(x), 2);
        Due.dueText("another path stays", Due.etag(x, 0), "two");
        Due.dueText("another vary stays", Due.etag(x, 1), "three");
        Due.due("no life and no etag", Due.keep(x, 0, ""), 0);
        Due.due("one goes", Due.things(x), 1);
        Due.ask(x, 1, "a: 2\ncache-control: no-store\n");
        Due.due("other values", Due.keep(x, 1, "etag: e\nvary: a\n"), 0);
        Due.due("nothing goes", Due.things(x), 1);
        Due.ask(x, 1, "a: 1\ncache-control: no-store\n");
        Due.due("the request's no-store", Due.keep(x, 1, "etag: e\nvary: a\n"), 0);
        Due.due("one goes", Due.things(x), 0);
    }

    private static void keepByNumber(VaryStore x, int path, int number) {
        Due.ask(x, path, "a: " + number + "\n");
        Due.due("keep " + number, Due.keep(x, path, "etag: " + number + "\nvary: a\n"), 1);
    }

    private static void atMostTwentyFour() {
        VaryStore x = new VaryStore();
        for (int i = 0; i < 24; i++) {
            keepByNumber(x, i % 16, i);
            Due.due("things", Due.things(x), i + 1);
        }
        keepByNumber(x, 3, 3);
        Due.due("the same one's place", Due.things(x), 24);
        Due.dueText("the first is still there", Due.etag(x, 0), "0");
        keepByNumber(x, 0, 24);
        Due.due("one goes", Due.things(x), 24);
        Due.dueText("the first went", Due.etag(x, 0), "1");
        keepByNumber(x, 0, 25);
        keepByNumber(x, 0, 26);
        Due.dueText("the fourth was kept anew", Due.etag(x, 0), "4");
        Due.dueText("behind the others", Due.etag(x, 20), "3");
        Due.dueText("the last", Due.etag(x, 23), "26");
        Due.due("none behind it", Due.thing(x, 24, 0), Due.THROWS);
    }

    private static void usedStay() {
        VaryStore x = new VaryStore();
        for (int i = 0; i < 24; i++) {
            Due.ask(x, 0, "a: " + i + "\n");
            Due.keep(x, 0, "etag: " + i + "\nvary: a\ncache-control: max-age=9\n");
        }
        Due.due("used", Due.ask(x, 0, "a: 0\n"), 1);
        Due.due("not used", Due.ask(x, 0, "a: 1\ncache-control: no-cache\n"), 3);
        Due.pass(x, 9);
        Due.due("used, not fresh", Due.ask(x, 0, "a: 2\ncache-control: max-stale\n"), 2);
        Due.due("not used, refused", Due.ask(x, 0, "a: 3\ncache-control: only-if-cached\n"), 4);
        Due.ask(x, 0, "a: 4\n");
        Due.due("made again", Due.again(x, 0, ""), 1);
        Due.dueText("made again is the last", Due.etag(x, 23), "4");
        int[] going = {1, 3, 5, 6};
        for (int k = 0; k < going.length; k++) {
            keepByNumber(x, 1, 100 + k);
            Due.due(going[k] + " went", Due.ask(x, 0, "a: " + going[k] + "\n"), 0);
        }
        Due.dueText("0 stays", Due.etag(x, 0), "0");
        Due.dueText("2 stays", Due.etag(x, 1), "2");
        Due.due("things", Due.things(x), 24);
    }

    private static void usedLongAgoGoes() {
        VaryStore x = new VaryStore();
        for (int i = 0; i < 24; i++) {
            Due.keep(x, i % 12, "etag: " + i + "\nvary: " + (i < 12 ? "a" : "b") + "\n");
        }
        Due.due("the first is used", Due.ask(x, 0, "b: 1\ncache-control: max-stale\n"), 2);
        for (int i = 1; i < 24; i++) {
            keepByNumber(x, 15, i);
        }
        Due.dueText("it stays while others go", Due.etag(x, 0), "0");
        keepByNumber(x, 15, 24);
        Due.dueText("it goes before what was kept later", Due.etag(x, 0), "1");
        Due.due("path", Due.thing(x, 0, 0), 15);
        Due.due("things", Due.things(x), 24);
    }

    private static void wrongThings() {
        VaryStore x = kept("etag: abc\n");
        int[] places = {-1, 1, 24, 25, Integer.MIN_VALUE, Integer.MAX_VALUE};
        for (int i : places) {
            Due.due("thing " + i, Due.thing(x, i, 0), Due.THROWS);
        }
        int[] whats = {-1, 7, 99, 103, 400, Integer.MIN_VALUE, Integer.MAX_VALUE};
        for (int what : whats) {
            Due.due("thing 0, " + what, Due.thing(x, 0, what), Due.THROWS);
        }
        Due.due("first letter", Due.thing(x, 0, 100), 'a');
        Due.due("last letter", Due.thing(x, 0, 102), 'c');
        Due.due("still there", Due.things(x), 1);
    }
}
