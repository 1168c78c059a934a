/**
 * The boundaries of THING, LIFE, AGE, FRESH, VALUES alike and KEPT, and of promises 4, 9 and 10.
 * Above each test stands the document's sentence.
 */
public final class KeptEdgesTest {
    public static void main(String[] args) {
        paths();
        etagLetters();
        lifeByWhatIsThere();
        expiresLessDate();
        ageAndSeconds();
        belowItsLife();
        freshWithNoCache();
        noneIsAValueOfItsOwn();
        alikeForEachName();
        eachReasonNotToKeep();
        lifeOrEtag();
        takesThePlace();
        refusedAndGone();
        wrongKeepChangesNothing();
        twentyThreeToTwentyFive();
        longestAgoGoes();
        fullAndRefused();
        whichThing();
        whatOfAThing();
        orderOfThings();
        Due.end();
    }

    // "a PATH (0 .. 15)"; "IllegalArgumentException as above": nothing is KEPT, the tape is empty.
    private static void paths() {
        VaryStore x = new VaryStore();
        for (int path = 0; path < 16; path++) {
            Due.due("keep " + path, Due.keep(x, path, "etag: e\n"), 1);
            Due.due("its path", Due.thing(x, path, 0), path);
        }
        int[] wrong = {-1, 16, 17, -16, 32, 256, Integer.MIN_VALUE, Integer.MAX_VALUE};
        for (int path : wrong) {
            Due.due("keep " + path, Due.keep(x, path, "etag: f\n"), Due.THROWS);
            Due.due("no fault of the text", Due.fault(x), VaryStore.NONE);
            Due.due("things", Due.things(x), 16);
            Due.due("the tape is empty then", Due.keep(x, 0, "etag: e\n"), 1);
            Due.dueText("the etag alone", Due.etag(x, 15), "e");
        }
    }

    // "(etag: any VALUE; one without letters is as if not there)"
    private static void etagLetters() {
        String[] none = {"", "etag:\n", "etag: \n", "etag:      \n"};
        for (String text : none) {
            VaryStore x = new VaryStore();
            Due.due("not kept by " + text, Due.keep(x, 0, text), 0);
            Due.due("kept by its life", Due.keep(x, 0, text + "cache-control: max-age=1\n"), 1);
            Due.due("letters", Due.thing(x, 0, 5), 0);
            Due.due("letter 0", Due.thing(x, 0, 100), Due.THROWS);
            Due.due("again with one", Due.again(x, 0, "etag: e\n"), 0);
        }
        String[] some = {"e", "\"\"", "*", ",", "0", "~", ":", "a b", "-", "E\"e\""};
        for (String etag : some) {
            VaryStore x = Due.kept(0, "etag: " + etag + "\n");
            Due.dueText("etag", Due.etag(x, 0), etag);
        }
        VaryStore x = Due.kept(0, "etag:" + "e".repeat(293) + "f\n");
        Due.due("most letters", Due.thing(x, 0, 5), 294);
        Due.due("letter 0", Due.thing(x, 0, 100), 'e');
        Due.due("letter 292", Due.thing(x, 0, 392), 'e');
        Due.due("letter 293", Due.thing(x, 0, 393), 'f');
        Due.due("letter 294", Due.thing(x, 0, 394), Due.THROWS);
    }

    private static void life(String lines, int want) {
        VaryStore x = Due.kept(0, "etag: e\n" + lines);
        Due.due("life of " + lines, Due.thing(x, 0, 2), want);
        Due.due("fresh of " + lines, Due.thing(x, 0, 3), want > 0 ? 1 : 0);
    }

    // "LIFE: cache-control's s-maxage, else max-age, else expires less date .., else 0": what is
    // there counts, though it be 0.
    private static void lifeByWhatIsThere() {
        String dates = "expires: 9\ndate: 1\n";
        life(dates, 8);
        life("cache-control: max-age=5\n" + dates, 5);
        life("cache-control: max-age=0\n" + dates, 0);
        life("cache-control: s-maxage=3\n" + dates, 3);
        life("cache-control: s-maxage=0\n" + dates, 0);
        life("cache-control: s-maxage=3, max-age=5\n" + dates, 3);
        life("cache-control: max-age=5, s-maxage=3\n", 3);
        life("cache-control: s-maxage=0, max-age=5\n" + dates, 0);
        life("cache-control: s-maxage=5, max-age=0\n" + dates, 5);
        life("cache-control: no-cachex\n" + dates, 8);
        life("cache-control: max-age=1\n", 1);
        life("", 0);
    }

    // "expires less date (both there; 0 if that is below 0)"
    private static void expiresLessDate() {
        life("expires: 5\ndate: 4\n", 1);
        life("expires: 5\ndate: 5\n", 0);
        life("expires: 5\ndate: 6\n", 0);
        life("expires: 0\ndate: 0\n", 0);
        life("expires: 1\ndate: 0\n", 1);
        life("expires: 0\ndate: 999999\n", 0);
        life("expires: 999999\ndate: 0\n", 999999);
        life("date: 4\nexpires: 5\n", 1);
        life("expires: 5\n", 0);
        life("date: 5\n", 0);
        life("expires: 5\ndate: x\n", 0);
        life("expires: x\ndate: 5\n", 0);
    }

    private static void dueAge(VaryStore x, int i, int age, int fresh) {
        Due.due("age of " + i, Due.thing(x, i, 1), age);
        Due.due("fresh of " + i, Due.thing(x, i, 3), fresh);
    }

    // "AGE: age (0 without) and the seconds since it was KEPT."
    private static void ageAndSeconds() {
        VaryStore x = new VaryStore();
        Due.pass(x, 100);
        Due.keep(x, 0, "cache-control: max-age=999999\n");
        Due.keep(x, 1, "cache-control: max-age=999999\nage: 999999\n");
        Due.keep(x, 2, "cache-control: max-age=999999\nage: 0\n");
        dueAge(x, 0, 0, 1);
        dueAge(x, 1, 999999, 0);
        dueAge(x, 2, 0, 1);
        Due.pass(x, 1);
        Due.keep(x, 3, "cache-control: max-age=5\nage: 4\n");
        dueAge(x, 0, 1, 1);
        dueAge(x, 1, 1000000, 0);
        dueAge(x, 2, 1, 1);
        dueAge(x, 3, 4, 1);
        for (int i = 0; i < 100; i++) {
            Due.pass(x, 100000);
        }
        dueAge(x, 0, 10000001, 0);
        dueAge(x, 1, 11000000, 0);
        dueAge(x, 3, 10000004, 0);
        Due.due("keep anew", Due.keep(x, 0, "cache-control: max-age=2\nage: 1\n"), 1);
        dueAge(x, 3, 1, 1);
    }

    // "It is FRESH, if .. its AGE is below its LIFE."
    private static void belowItsLife() {
        for (int age = 8; age <= 12; age++) {
            VaryStore x = Due.kept(0, "etag: e\ncache-control: max-age=10\nage: " + age + "\n");
            dueAge(x, 0, age, age < 10 ? 1 : 0);
            Due.due("ask at " + age, Due.ask(x, 0, ""), age < 10 ? 1 : 3);
            VaryStore y = Due.kept(0, "etag: e\ncache-control: max-age=10\nage: 3\n");
            Due.pass(y, age - 3);
            dueAge(y, 0, age, age < 10 ? 1 : 0);
            Due.due("ask at " + age, Due.ask(y, 0, ""), age < 10 ? 1 : 3);
        }
        dueAge(Due.kept(0, "cache-control: max-age=1\n"), 0, 0, 1);
        dueAge(Due.kept(0, "cache-control: max-age=1\nage: 1\n"), 0, 1, 0);
        dueAge(Due.kept(0, "cache-control: max-age=0\netag: e\n"), 0, 0, 0);
        dueAge(Due.kept(0, "cache-control: max-age=999999\nage: 999998\n"), 0, 999998, 1);
    }

    // "It is FRESH, if it has no no-cache"
    private static void freshWithNoCache() {
        VaryStore x = Due.kept(0, "cache-control: no-cache, max-age=10\n");
        Due.due("life", Due.thing(x, 0, 2), 10);
        Due.due("fresh", Due.thing(x, 0, 3), 0);
        Due.due("strict", Due.thing(x, 0, 6), 1);
        Due.due("ask", Due.ask(x, 0, ""), 3);
        Due.due("ask with max-stale", Due.ask(x, 0, "cache-control: max-stale\n"), 3);
        VaryStore y = Due.kept(0, "pragma: no-cache\ncache-control: max-age=10\n");
        Due.due("of another header", Due.thing(y, 0, 3), 1);
    }

    // "(none is a VALUE of its own)"; "VALUES are alike .. or both are not there"
    private static void noneIsAValueOfItsOwn() {
        String[] requests = {"", "a:\n", "a: 1\n", "b: 1\n", "a: ,\n"};
        // Which of them are alike as a VARY by a goes.
        int[] kinds = {0, 1, 2, 0, 1};
        for (int i = 0; i < requests.length; i++) {
            for (int k = 0; k < requests.length; k++) {
                VaryStore x = new VaryStore();
                Due.ask(x, 0, requests[i]);
                Due.due("keep", Due.keep(x, 0, "etag: e\nvary: a\n"), 1);
                int alike = kinds[i] == kinds[k] ? 1 : 0;
                Due.due("kept by " + requests[i] + " asked by " + requests[k],
                        Due.ask(x, 0, requests[k]), alike == 1 ? 3 : 0);
                Due.due("again", Due.again(x, 0, ""), alike);
                Due.due("keep", Due.keep(x, 0, "etag: f\nvary: a\n"), 1);
                Due.due("things", Due.things(x), 2 - alike);
            }
        }
    }

    // "if they are the same LIST (order counts, great and small letters do too)", for each NAME
    private static void alikeForEachName() {
        VaryStore x = new VaryStore();
        Due.ask(x, 0, "a: x, y\nb: z\n");
        Due.due("keep", Due.keep(x, 0, "etag: e\nvary: a, b, c\n"), 1);
        Due.due("the same", Due.ask(x, 0, "b: z\na: x, y\n"), 3);
        Due.due("another of the first name", Due.ask(x, 0, "a: x\nb: z\n"), 0);
        Due.due("another of the second name", Due.ask(x, 0, "a: x, y\nb: y\n"), 0);
        Due.due("another of the third name", Due.ask(x, 0, "a: x, y\nb: z\nc: x\n"), 0);
        Due.due("order", Due.ask(x, 0, "a: y, x\nb: z\n"), 0);
        Due.due("great letters", Due.ask(x, 0, "a: x, Y\nb: z\n"), 0);
        Due.due("great letters", Due.ask(x, 0, "a: x, y\nb: Z\n"), 0);
        Due.due("one more", Due.ask(x, 0, "a: x, y, y\nb: z\n"), 0);
        Due.due("one without vary", Due.keep(x, 0, "etag: f\n"), 1);
        Due.due("all are alike then", Due.ask(x, 0, "a: whatever\n"), 3);
    }

    // "A THING is KEPT, if its cache-control has no no-store and no private, its VARY has no *, and the
    // LATEST REQUEST's has no no-store"
    private static void eachReasonNotToKeep() {
        String good = "etag: e\ncache-control: max-age=5\n";
        kept("", good, 1);
        kept("", good + "cache-control: no-store\n", 0);
        kept("", good + "cache-control: private\n", 0);
        kept("", good + "cache-control: no-stores, xprivate\n", 1);
        kept("", good + "cache-control: no-store=x, private=\n", 1);
        kept("", good + "x: no-store, private, *\n", 1);
        kept("", good + "vary: *\n", 0);
        kept("", good + "vary: *, a\n", 0);
        kept("", good + "vary: a, *\n", 0);
        kept("", good + "vary: a ,  *  , b\n", 0);
        kept("", good + "vary: a\nvary: *\n", 0);
        kept("", good + "vary: **, a*, *a\n", 1);
        kept("", good + "vary: a\n", 1);
        kept("cache-control: no-store\n", good, 0);
        kept("cache-control: x, no-store\n", good, 0);
        kept("cache-control: private\n", good, 1);
        kept("vary: *\n", good, 1);
        kept("x: no-store\n", good, 1);
        kept("", "etag: e\ncache-control: no-cache, must-revalidate\n", 1);
    }

    private static void kept(String request, String text, int want) {
        VaryStore x = new VaryStore();
        Due.ask(x, 3, request);
        Due.due("keep " + text + " for " + request, Due.keep(x, 3, text), want);
        Due.due("things", Due.things(x), want);
        Due.due("the tape is empty then", Due.keep(x, 4, ""), 0);
        Due.due("fault", Due.fault(x), VaryStore.NONE);
    }

    // "and it has more than LIFE 0, or an etag"
    private static void lifeOrEtag() {
        kept("", "", 0);
        kept("", "cache-control: max-age=0\n", 0);
        kept("", "cache-control: max-age=1\n", 1);
        kept("", "cache-control: s-maxage=0, max-age=1\n", 0);
        kept("", "cache-control: s-maxage=1, max-age=0\n", 1);
        kept("", "expires: 1\ndate: 1\n", 0);
        kept("", "expires: 1\ndate: 2\n", 0);
        kept("", "expires: 2\ndate: 1\n", 1);
        kept("", "etag:\n", 0);
        kept("", "etag: e\n", 1);
        kept("", "etag: e\ncache-control: max-age=0\n", 1);
        kept("", "etag:\ncache-control: max-age=1\n", 1);
        kept("", "cache-control: max-age=1\nage: 999999\n", 1);
        kept("", "cache-control: max-age=1, no-cache\n", 1);
    }

    // "It takes the place of one of the same PATH with the same VARY (as a LIST, small letters) and VALUES."
    private static void takesThePlace() {
        place("a: 1\n", 0, "a", "a: 1\n", 0, "a", 1);
        place("a: 1\n", 0, "a", "a: 1\n", 1, "a", 2);
        place("a: 1\n", 0, "a", "a: 2\n", 0, "a", 2);
        place("a: 1\n", 0, "a", "a: 1\n", 0, "A", 1);
        place("a: 1\n", 0, "a", "a: 1\n", 0, " , A ,", 1);
        place("a: 1\n", 0, "a", "A: 1,\n", 0, "a", 1);
        place("a: 1\n", 0, "a", "a: 1\n", 0, "a, b", 2);
        place("a: 1\n", 0, "a", "a: 1\n", 0, "a, a", 2);
        place("a: 1\n", 0, "a", "a: 1\n", 0, "", 2);
        place("a: 1\n", 0, "", "a: 2\n", 0, "", 1);
        place("a: 1\n", 0, "", "a: 2\n", 0, ",", 1);
        place("a: 1\nb: 1\n", 0, "a, b", "a: 1\nb: 1\n", 0, "b, a", 2);
        place("a: 1\nb: 1\n", 0, "a, b", "a: 1\nb: 2\n", 0, "a, b", 2);
        place("a: 1\nb: 1\n", 0, "a, b", "b: 1\na: 1\nc: 1\n", 0, "A,B", 1);
        // The neighbours of A and Z have no small letters.
        place("", 0, "a@", "", 0, "a`", 2);
        place("", 0, "a[", "", 0, "a{", 2);
        place("", 0, "AZ", "", 0, "az", 1);
        place("", 0, "a", "", 0, "a", 1);
        place("", 0, "a", "a:\n", 0, "a", 2);
    }

    private static void place(String first, int path, String vary, String second, int other, String by, int want) {
        VaryStore x = new VaryStore();
        Due.ask(x, 9, first);
        Due.due("keep", Due.keep(x, path, "etag: one\nvary: " + vary + "\n"), 1);
        Due.due("keep another", Due.keep(x, 5, "etag: two\n"), 1);
        Due.ask(x, 9, second);
        Due.due("keep", Due.keep(x, other, "etag: three\nvary: " + by + "\n"), 1);
        Due.due(vary + " of " + first + ", " + by + " of " + second, Due.things(x), want + 1);
        Due.dueText("the last", Due.etag(x, want), "three");
        Due.dueText("the first", Due.etag(x, 0), want == 1 ? "two" : "one");
    }

    // "false if it may not be (one of the same PATH, VARY and VALUES goes then)": for each reason.
    private static void refusedAndGone() {
        gone("", "etag: e\nvary: a\ncache-control: no-store\n", 1);
        gone("", "etag: e\nvary: a\ncache-control: private\n", 1);
        gone("", "vary: a\n", 1);
        gone("", "vary: a\ncache-control: max-age=0\n", 1);
        gone("cache-control: no-store\n", "etag: e\nvary: A\n", 1);
        gone("", "etag: e\nvary: *\n", 0);
        gone("", "etag: e\nvary: a, *\n", 0);
        gone("", "vary: b\n", 0);
        gone("a: 2\n", "vary: a\n", 0);
    }

    private static void gone(String more, String text, int want) {
        VaryStore x = new VaryStore();
        Due.ask(x, 0, "a: 1\n");
        Due.keep(x, 0, "etag: one\nvary: a\n");
        Due.keep(x, 1, "etag: two\nvary: a\n");
        Due.keep(x, 0, "etag: three\nvary: a, b\n");
        Due.ask(x, 7, "a: 1\n" + more);
        Due.due("keep " + text, Due.keep(x, 0, text), 0);
        Due.due("things", Due.things(x), 3 - want);
        Due.dueText("the first", Due.etag(x, 0), want == 1 ? "two" : "one");
        Due.dueText("the last", Due.etag(x, 2 - want), "three");
        Due.due("again false, the same goes once", Due.keep(x, 0, text), 0);
        Due.due("things", Due.things(x), 3 - want);
    }

    // "IllegalArgumentException as above": what is KEPT stays, the tape is empty, fault() tells.
    private static void wrongKeepChangesNothing() {
        VaryStore x = Due.kept(0, "etag: one\n");
        Due.due("a wrong text", Due.keep(x, 0, "etag: two\nbad\n"), Due.THROWS);
        Due.due("its fault", Due.fault(x), 10);
        Due.due("a wrong text that would not be kept", Due.keep(x, 0, "age: 1\nbad"), Due.THROWS);
        Due.due("its fault", Due.fault(x), 7);
        Due.due("a wrong path", Due.keep(x, 16, "etag: two\n"), Due.THROWS);
        Due.due("no fault", Due.fault(x), VaryStore.NONE);
        Due.due("both are wrong", Due.keep(x, -1, "bad"), Due.THROWS);
        Due.due("the fault", Due.fault(x), 0);
        Due.due("things", Due.things(x), 1);
        Due.dueText("it stays", Due.etag(x, 0), "one");
        Due.due("the tape is empty then", Due.keep(x, 1, "etag: three\n"), 1);
        Due.dueText("the etag alone", Due.etag(x, 1), "three");
    }

    private static VaryStore full(int count, String more) {
        VaryStore x = new VaryStore();
        for (int i = 0; i < count; i++) {
            Due.ask(x, i % 16, "a: " + i + "\n");
            Due.due("keep " + i, Due.keep(x, i % 16, "etag: " + i + "\nvary: a\n" + more), 1);
            Due.due("things", Due.things(x), Math.min(24, i + 1));
        }
        return x;
    }

    // "At most 24 are KEPT: else the one goes that was KEPT or USED longest ago."
    private static void twentyThreeToTwentyFive() {
        for (int count = 22; count <= 30; count++) {
            VaryStore x = full(count, "");
            int first = Math.max(0, count - 24);
            for (int i = 0; i < Due.things(x); i++) {
                Due.dueText("thing " + i + " of " + count, Due.etag(x, i), String.valueOf(first + i));
            }
            Due.due("none behind the last", Due.thing(x, Math.min(24, count), 0), Due.THROWS);
        }
    }

    private static void dueGone(VaryStore x, String call, int number, int want) {
        int found = 0;
        for (int i = 0; i < Due.things(x); i++) {
            found += String.valueOf(number).equals(Due.etag(x, i)) ? 1 : 0;
        }
        Due.due(call + ": " + number + " went", 1 - found, want);
    }

    private static void keepOneMore(VaryStore x, int number) {
        Due.ask(x, 15, "a: " + number + "\n");
        Due.due("keep one more", Due.keep(x, 15, "etag: " + number + "\nvary: a\n"), 1);
        Due.due("things", Due.things(x), 24);
    }

    private static void longestAgoGoes() {
        String words = "cache-control: max-age=9\n";
        VaryStore x = full(24, words);
        Due.due("0 is used, fresh", Due.ask(x, 0, "a: 0\n"), 1);
        keepOneMore(x, 100);
        dueGone(x, "used with 1", 0, 0);
        dueGone(x, "kept before the others", 1, 1);
        x = full(24, words);
        Due.pass(x, 9);
        Due.due("0 is used, not fresh", Due.ask(x, 0, "a: 0\ncache-control: max-stale\n"), 2);
        keepOneMore(x, 100);
        dueGone(x, "used with 2", 0, 0);
        dueGone(x, "kept before the others", 1, 1);
        x = full(24, words);
        Due.due("0 is not used", Due.ask(x, 0, "a: 0\ncache-control: no-cache\n"), 3);
        keepOneMore(x, 100);
        dueGone(x, "asked with 3", 0, 1);
        x = full(24, words);
        Due.due("0 is refused", Due.ask(x, 0, "a: 0\ncache-control: no-cache, only-if-cached\n"), 4);
        keepOneMore(x, 100);
        dueGone(x, "asked with 4", 0, 1);
        x = full(24, words);
        Due.due("0 is missed", Due.ask(x, 1, "a: 0\n"), 0);
        keepOneMore(x, 100);
        dueGone(x, "asked with 0", 0, 1);
        x = full(24, words);
        Due.ask(x, 0, "a: 0\ncache-control: no-cache\n");
        Due.due("0 is made again", Due.again(x, 0, ""), 1);
        keepOneMore(x, 100);
        dueGone(x, "made again", 0, 0);
        dueGone(x, "kept before the others", 1, 1);
        x = full(24, words);
        Due.ask(x, 0, "a: 0\ncache-control: no-cache\n");
        Due.due("0 is not made again", Due.again(x, 0, "etag: z\n"), 0);
        keepOneMore(x, 100);
        dueGone(x, "not made again", 0, 1);
        usedTwice(full(24, words));
    }

    // The latest use counts, not the first one; and a use does not change the order of thing().
    private static void usedTwice(VaryStore x) {
        Due.ask(x, 0, "a: 0\n");
        Due.ask(x, 1, "a: 1\n");
        Due.ask(x, 0, "a: 0\n");
        Due.dueText("the order stays", Due.etag(x, 0), "0");
        for (int i = 2; i < 24; i++) {
            keepOneMore(x, 100 + i);
        }
        Due.dueText("used twice", Due.etag(x, 0), "0");
        Due.dueText("used once", Due.etag(x, 1), "1");
        Due.dueText("all that were not used went", Due.etag(x, 2), "102");
        keepOneMore(x, 200);
        Due.dueText("used after 1", Due.etag(x, 0), "0");
        Due.dueText("1, used before 0, went", Due.etag(x, 1), "102");
        keepOneMore(x, 201);
        Due.dueText("0, used longest ago, went", Due.etag(x, 0), "102");
    }

    // With 24, one that may not be KEPT makes none go but its own; one that takes a place neither.
    private static void fullAndRefused() {
        VaryStore x = full(24, "");
        Due.due("refused", Due.keep(x, 9, "age: 1\n"), 0);
        Due.due("things", Due.things(x), 24);
        Due.due("a wrong text", Due.keep(x, 9, "etag\n"), Due.THROWS);
        Due.due("a wrong path", Due.keep(x, 16, "etag: e\n"), Due.THROWS);
        Due.due("things", Due.things(x), 24);
        Due.ask(x, 5, "a: 5\n");
        Due.due("takes the place", Due.keep(x, 5, "etag: 5\nvary: a\n"), 1);
        Due.due("things", Due.things(x), 24);
        Due.dueText("the first stays", Due.etag(x, 0), "0");
        Due.dueText("it is the last", Due.etag(x, 23), "5");
        Due.due("refused, its own goes", Due.keep(x, 5, "age: 5\nvary: a\n"), 0);
        Due.due("things", Due.things(x), 23);
        keepOneMore(x, 100);
        Due.dueText("the first stays", Due.etag(x, 0), "0");
        keepOneMore(x, 101);
        Due.dueText("the first went", Due.etag(x, 0), "1");
    }

    // "Of the i-th THING .. NoSuchElementException: there is none such."
    private static void whichThing() {
        for (int count = 0; count <= 24; count++) {
            VaryStore x = full(count, "");
            for (int what = 0; what <= 6; what++) {
                Due.due("behind the last of " + count, Due.thing(x, count, what), Due.THROWS);
                Due.due("before the first of " + count, Due.thing(x, -1, what), Due.THROWS);
            }
            Due.due("letter behind the last", Due.thing(x, count, 100), Due.THROWS);
            Due.due("letter before the first", Due.thing(x, -1, 100), Due.THROWS);
            if (count > 0) {
                Due.due("the first", Due.thing(x, 0, 0), 0);
                Due.due("the last", Due.thing(x, count - 1, 0), (count - 1) % 16);
                Due.due("purge", Due.purge(x, (count - 1) % 16) > 0 ? 1 : 0, 1);
                Due.due("gone", Due.thing(x, count - 1, 0), Due.THROWS);
            }
            int[] far = {24, 25, 26, 99, -2, Integer.MIN_VALUE, Integer.MAX_VALUE};
            for (int i : far) {
                Due.due("thing " + i, Due.thing(x, i, 0), Due.THROWS);
            }
        }
    }

    // "what 0: .. 6: ..., 100 + k: letter k of its etag"
    private static void whatOfAThing() {
        VaryStore x = new VaryStore();
        Due.pass(x, 7);
        Due.keep(x, 15, "etag: xyz\nvary: a, b\nage: 3\ncache-control: s-maxage=5\n");
        Due.pass(x, 1);
        int[] want = {15, 4, 5, 1, 2, 3, 1};
        for (int what = 0; what <= 6; what++) {
            Due.due("what " + what, Due.thing(x, 0, what), want[what]);
        }
        int[] wrong = {-1, 7, 8, 50, 98, 99, 103, 104, 200, 399, 400, 401, -100, -99,
            Integer.MIN_VALUE, Integer.MIN_VALUE + 100, Integer.MAX_VALUE, Integer.MAX_VALUE - 1};
        for (int what : wrong) {
            Due.due("what " + what, Due.thing(x, 0, what), Due.THROWS);
        }
        Due.due("letter 0", Due.thing(x, 0, 100), 'x');
        Due.due("letter 1", Due.thing(x, 0, 101), 'y');
        Due.due("letter 2", Due.thing(x, 0, 102), 'z');
        String[] free = {"", "max-age=5", "private-x", "x-no-cache", "no-transform"};
        for (String words : free) {
            VaryStore y = Due.kept(0, "etag: e\ncache-control: " + words + "\n");
            Due.due("what 6 of " + words, Due.thing(y, 0, 6), 0);
        }
    }

    // "(in the order in which they were KEPT, the earliest first)"
    private static void orderOfThings() {
        VaryStore x = full(5, "cache-control: max-age=9\n");
        Due.due("use of 1", Due.ask(x, 1, "a: 1\n"), 1);
        Due.dueText("a use moves nothing", Due.etag(x, 1), "1");
        Due.due("again of 1", Due.again(x, 1, ""), 1);
        Due.ask(x, 3, "a: 3\n");
        Due.due("keep of 3", Due.keep(x, 3, "etag: 30\nvary: a\n"), 1);
        Due.due("purge of 2", Due.purge(x, 2), 1);
        String[] want = {"0", "4", "1", "30"};
        for (int i = 0; i < want.length; i++) {
            Due.dueText("thing " + i, Due.etag(x, i), want[i]);
        }
        Due.due("things", Due.things(x), 4);
    }
}
