/** The boundaries of promise 5. Above each test stands the document's sentence. */
public final class AgainEdgesTest {
    public static void main(String[] args) {
        paths();
        noneToBeMadeAgain();
        theOneOfTheLatestRequest();
        etagOfTheText();
        whatStays();
        cacheControlThereOrNot();
        expiresDateAgeAsTold();
        keptFromNowOn();
        lastInTheOrder();
        falseChangesNothing();
        wrongChangesNothing();
        tapeIsEmptyThen();
        Due.end();
    }

    private static void dueThing(VaryStore x, int i, int age, int life, int fresh, int strict) {
        Due.due("age", Due.thing(x, i, 1), age);
        Due.due("life", Due.thing(x, i, 2), life);
        Due.due("fresh", Due.thing(x, i, 3), fresh);
        Due.due("strict", Due.thing(x, i, 6), strict);
    }

    // "IllegalArgumentException as above": "there is no such PATH"
    private static void paths() {
        VaryStore x = new VaryStore();
        for (int path = 0; path < 16; path++) {
            Due.due("again " + path + " of none", Due.again(x, path, ""), 0);
            Due.keep(x, path, "etag: e\n");
            Due.due("again " + path, Due.again(x, path, ""), 1);
        }
        int[] wrong = {-1, 16, 17, -16, 32, 256, Integer.MIN_VALUE, Integer.MAX_VALUE};
        for (int path : wrong) {
            Due.due("again " + path, Due.again(x, path, ""), Due.THROWS);
            Due.due("fault", Due.fault(x), VaryStore.NONE);
        }
    }

    // "false if there is none"
    private static void noneToBeMadeAgain() {
        VaryStore x = new VaryStore();
        Due.due("nothing is kept", Due.again(x, 0, "etag: e\ncache-control: max-age=5\n"), 0);
        Due.due("nothing is kept by it", Due.things(x), 0);
        Due.ask(x, 0, "a: 1\n");
        Due.keep(x, 0, "etag: e\nvary: a\n");
        Due.due("of another path", Due.again(x, 1, ""), 0);
        Due.ask(x, 0, "a: 2\n");
        Due.due("not alike", Due.again(x, 0, ""), 0);
        Due.ask(x, 0, "");
        Due.due("not there", Due.again(x, 0, ""), 0);
        Due.ask(x, 1, "a: 1\n");
        Due.due("alike, asked for another path", Due.again(x, 0, ""), 1);
        Due.purge(x, 0);
        Due.due("gone", Due.again(x, 0, ""), 0);
    }

    // "THE ONE of the LATEST REQUEST for a PATH": the one of several that was KEPT latest.
    private static void theOneOfTheLatestRequest() {
        VaryStore x = new VaryStore();
        Due.ask(x, 0, "a: 1\nb: 1\n");
        Due.keep(x, 0, "etag: e\nvary: a\n");
        Due.keep(x, 0, "etag: e\nvary: b, c\n");
        Due.keep(x, 1, "etag: e\n");
        Due.due("again", Due.again(x, 0, "age: 5\n"), 1);
        Due.due("by b, the latest", Due.thing(x, 2, 4), 2);
        Due.due("its age", Due.thing(x, 2, 1), 5);
        Due.due("by a stays", Due.thing(x, 0, 1), 0);
        Due.ask(x, 0, "a: 1\nb: 2\n");
        Due.due("again", Due.again(x, 0, "age: 6\n"), 1);
        Due.due("by a, the only one", Due.thing(x, 2, 4), 1);
        Due.due("its age", Due.thing(x, 2, 1), 6);
        Due.due("by b stays", Due.thing(x, 1, 1), 5);
        Due.ask(x, 0, "a: 1\nb: 1\n");
        Due.due("again", Due.again(x, 0, "age: 7\n"), 1);
        Due.due("by a, made again latest", Due.thing(x, 2, 4), 1);
        Due.due("its age", Due.thing(x, 2, 1), 7);
    }

    private static void etag(String own, String told, int want) {
        VaryStore x = Due.kept(0, "cache-control: max-age=5\n" + own);
        Due.due("again of " + own + " by " + told, Due.again(x, 0, told + "age: 3\n"), want);
        Due.due("its age", Due.thing(x, 0, 1), want == 1 ? 3 : 0);
        Due.due("its letters", Due.thing(x, 0, 5), Due.thing(Due.kept(0, "cache-control: max-age=5\n" + own), 0, 5));
    }

    // "or the TEXT has an etag that is another one"; "one without letters is as if not there"
    private static void etagOfTheText() {
        etag("etag: e\n", "etag: e\n", 1);
        etag("etag: e\n", "etag:   e   \n", 1);
        etag("etag: e\n", "ETAG: e\n", 1);
        etag("etag: e\n", "", 1);
        etag("etag: e\n", "etag:\n", 1);
        etag("etag: e\n", "etag:   \n", 1);
        etag("etag: e\n", "etag: f\n", 0);
        etag("etag: e\n", "etag: E\n", 0);
        etag("etag: e\n", "etag: ee\n", 0);
        etag("etag: ee\n", "etag: e\n", 0);
        etag("etag: ef\n", "etag: eg\n", 0);
        etag("etag: e\n", "etag: \"e\"\n", 0);
        etag("etag: e\n", "etag: e\netag: e\n", 0);
        etag("etag: e,e\n", "etag: e\netag: e\n", 1);
        etag("etag: e\n", "etag: e\netag:\n", 0);
        etag("etag: a b\n", "etag: a  b\n", 0);
        etag("etag: a, b\n", "etag: a,b\n", 0);
        etag("", "etag: e\n", 0);
        etag("", "etag:\n", 1);
        etag("", "", 1);
        String longest = "e".repeat(250);
        etag("etag: " + longest + "\n", "etag: " + longest + "\n", 1);
        etag("etag: " + longest + "\n", "etag: " + longest + "f\n", 0);
        etag("etag: " + longest + "\n", "etag: " + longest.substring(1) + "f\n", 0);
    }

    // "its etag, VARY and VALUES stay"
    private static void whatStays() {
        VaryStore x = new VaryStore();
        Due.ask(x, 4, "a: 1, 2\nb: 1\n");
        Due.keep(x, 4, "etag: e\nvary: a\ncache-control: max-age=5\n");
        Due.ask(x, 4, "a: 1,2,\nb: 2\n");
        Due.due("again", Due.again(x, 4, "etag:\nvary: b, c, d\n"), 1);
        Due.due("path", Due.thing(x, 0, 0), 4);
        Due.due("names", Due.thing(x, 0, 4), 1);
        Due.dueText("etag", Due.etag(x, 0), "e");
        Due.due("by a alone", Due.ask(x, 4, "a: 1,2\nb: 9\n"), 1);
        Due.due("another a", Due.ask(x, 4, "a: 1\nb: 2\n"), 0);
        Due.ask(x, 4, "a: 1, 2\n");
        Due.due("vary *", Due.again(x, 4, "vary: *\n"), 1);
        Due.due("names", Due.thing(x, 0, 4), 1);
        Due.due("takes its place", Due.keep(x, 4, "etag: f\nvary: a\n"), 1);
        Due.due("things", Due.things(x), 1);
    }

    // "all else is as this TEXT tells (cache-control, if it is there, else as it was"
    private static void cacheControlThereOrNot() {
        VaryStore x = Due.kept(0, "cache-control: max-age=10, must-revalidate\n");
        Due.due("not there", Due.again(x, 0, ""), 1);
        dueThing(x, 0, 0, 10, 1, 1);
        Due.due("not there, dates told", Due.again(x, 0, "expires: 9\ndate: 2\n"), 1);
        dueThing(x, 0, 0, 10, 1, 1);
        Due.due("there", Due.again(x, 0, "cache-control: max-age=4\n"), 1);
        dueThing(x, 0, 0, 4, 1, 0);
        Due.due("not there, as it was made again", Due.again(x, 0, ""), 1);
        dueThing(x, 0, 0, 4, 1, 0);
        Due.due("there, max-age 0", Due.again(x, 0, "cache-control: max-age=0\nexpires: 9\ndate: 2\n"), 1);
        dueThing(x, 0, 0, 0, 0, 0);
        Due.due("there, s-maxage", Due.again(x, 0, "cache-control: s-maxage=3, max-age=8\n"), 1);
        dueThing(x, 0, 0, 3, 1, 1);
        Due.due("not there", Due.again(x, 0, "age: 3\n"), 1);
        dueThing(x, 0, 3, 3, 0, 1);
        Due.due("there, no-cache", Due.again(x, 0, "cache-control: no-cache, max-age=8\n"), 1);
        dueThing(x, 0, 0, 8, 0, 1);
        Due.due("not there", Due.again(x, 0, ""), 1);
        dueThing(x, 0, 0, 8, 0, 1);
        Due.due("there, another word", Due.again(x, 0, "cache-control: x\nexpires: 9\ndate: 2\n"), 1);
        dueThing(x, 0, 0, 7, 1, 0);
        Due.due("not there", Due.again(x, 0, ""), 1);
        dueThing(x, 0, 0, 0, 0, 0);
        VaryStore y = Due.kept(0, "cache-control: max-age=10, must-revalidate\n");
        Due.due("there, without words", Due.again(y, 0, "cache-control:\n"), 1);
        dueThing(y, 0, 0, 0, 0, 0);
        Due.due("it stays, though it would not be kept", Due.things(y), 1);
    }

    // "expires, date, age as they are told)"
    private static void expiresDateAgeAsTold() {
        VaryStore x = Due.kept(0, "etag: e\nexpires: 20\ndate: 10\nage: 4\n");
        dueThing(x, 0, 4, 10, 1, 0);
        Due.due("both told", Due.again(x, 0, "expires: 8\ndate: 5\nage: 2\n"), 1);
        dueThing(x, 0, 2, 3, 1, 0);
        Due.due("expires alone", Due.again(x, 0, "expires: 8\n"), 1);
        dueThing(x, 0, 0, 0, 0, 0);
        Due.due("both told", Due.again(x, 0, "expires: 8\ndate: 5\nage: 3\n"), 1);
        dueThing(x, 0, 3, 3, 0, 0);
        Due.due("date alone", Due.again(x, 0, "date: 5\nage: 999999\n"), 1);
        dueThing(x, 0, 999999, 0, 0, 0);
        Due.due("below 0", Due.again(x, 0, "expires: 5\ndate: 6\nage: 1000000\n"), 1);
        dueThing(x, 0, 0, 0, 0, 0);
        Due.due("1", Due.again(x, 0, "expires: 6\ndate: 5\nage:\n"), 1);
        dueThing(x, 0, 0, 1, 1, 0);
        Due.due("nothing told", Due.again(x, 0, ""), 1);
        dueThing(x, 0, 0, 0, 0, 0);
    }

    // "it is KEPT from now on"
    private static void keptFromNowOn() {
        VaryStore x = Due.kept(0, "cache-control: max-age=10\nage: 6\n");
        Due.pass(x, 3);
        dueThing(x, 0, 9, 10, 1, 0);
        Due.pass(x, 1);
        dueThing(x, 0, 10, 10, 0, 0);
        Due.due("ask", Due.ask(x, 0, ""), 3);
        Due.due("again", Due.again(x, 0, ""), 1);
        dueThing(x, 0, 0, 10, 1, 0);
        Due.due("ask", Due.ask(x, 0, ""), 1);
        Due.pass(x, 9);
        dueThing(x, 0, 9, 10, 1, 0);
        Due.pass(x, 1);
        dueThing(x, 0, 10, 10, 0, 0);
        Due.due("again with an age", Due.again(x, 0, "age: 9\n"), 1);
        dueThing(x, 0, 9, 10, 1, 0);
        Due.pass(x, 1);
        dueThing(x, 0, 10, 10, 0, 0);
    }

    // "(made again counts as KEPT)": the first, the middle one, the last of the order.
    private static void lastInTheOrder() {
        for (int which = 0; which < 3; which++) {
            VaryStore x = new VaryStore();
            for (int path = 0; path < 3; path++) {
                Due.keep(x, path, "etag: e\n");
            }
            Due.due("again", Due.again(x, which, ""), 1);
            Due.due("the last", Due.thing(x, 2, 0), which);
            Due.due("the first", Due.thing(x, 0, 0), which == 0 ? 1 : 0);
            Due.due("the middle one", Due.thing(x, 1, 0), which == 2 ? 1 : 2);
            Due.due("things", Due.things(x), 3);
        }
    }

    private static VaryStore two() {
        VaryStore x = new VaryStore();
        Due.keep(x, 0, "etag: e\nage: 1\ncache-control: max-age=10, must-revalidate\n");
        Due.keep(x, 1, "etag: f\n");
        Due.pass(x, 2);
        return x;
    }

    private static void dueTwo(VaryStore x) {
        Due.due("things", Due.things(x), 2);
        dueThing(x, 0, 3, 10, 1, 1);
        Due.due("path", Due.thing(x, 0, 0), 0);
        Due.dueText("etag", Due.etag(x, 0), "e");
        dueThing(x, 1, 2, 0, 0, 0);
        Due.dueText("etag", Due.etag(x, 1), "f");
    }

    // "false if .. (nothing changes)"
    private static void falseChangesNothing() {
        VaryStore x = two();
        Due.due("another etag", Due.again(x, 0, "etag: z\nage: 9\ncache-control: no-cache\n"), 0);
        dueTwo(x);
        Due.due("none", Due.again(x, 2, "etag: e\nage: 9\ncache-control: no-cache\n"), 0);
        dueTwo(x);
        Due.due("fault", Due.fault(x), VaryStore.NONE);
    }

    // "IllegalArgumentException as above": the THINGS and the LATEST REQUEST stay.
    private static void wrongChangesNothing() {
        VaryStore x = two();
        Due.due("a wrong text", Due.again(x, 0, "age: 9\ncache-control\n"), Due.THROWS);
        Due.due("its fault", Due.fault(x), 7);
        dueTwo(x);
        Due.due("a text without end", Due.again(x, 0, "age: 9"), Due.THROWS);
        Due.due("its fault", Due.fault(x), 0);
        dueTwo(x);
        Due.due("a wrong path", Due.again(x, 16, "age: 9\n"), Due.THROWS);
        Due.due("no fault", Due.fault(x), VaryStore.NONE);
        dueTwo(x);
        Due.due("both are wrong", Due.again(x, -1, "age: 9\n9"), Due.THROWS);
        Due.due("the fault", Due.fault(x), 7);
        dueTwo(x);
    }

    // "The tape (which is empty then)"
    private static void tapeIsEmptyThen() {
        String[] texts = {"", "age: 9\n", "etag: z\n", "bad\n", "age: 9"};
        int[] paths = {0, 1, 2, 15, 16, -1};
        for (String text : texts) {
            for (int path : paths) {
                VaryStore x = two();
                Due.again(x, path, text);
                Due.due("the tape is empty behind " + text, Due.ask(x, 9, ""), 0);
                Due.due("no fault", Due.fault(x), VaryStore.NONE);
                Due.due("a whole tape has room", Due.keep(x, 9, "etag:" + "e".repeat(294) + "\n"), 1);
            }
        }
    }
}
