import java.io.IOException;
import java.nio.file.Files;
import java.nio.file.Path;
import java.util.ArrayList;
import java.util.List;

/**
 * The document from its first line to its last, a test for each sentence: each is written out where
 * it is tested, and together they are the whole document but for its headings and its Java (which
 * FaceTest holds the class to). .ci/run starts it where the project is.
 */
public final class DocumentTest {
    private static final Path DOCUMENT = Path.of("../shared/DOC.md");
    private static final List<String> SENTENCES = new ArrayList<>();

    public static void main(String[] args) throws IOException {
        whatItIs();
        texts();
        listsAndWords();
        thingsThatAreKept();
        lifeAndAge();
        alike();
        keptOrNot();
        asked();
        wordsOfTheRequest();
        promiseOne();
        promiseTwo();
        promiseThree();
        promiseFour();
        promiseFive();
        promiseSix();
        promisesSevenAndEight();
        promisesNineAndTen();
        notPromised();
        everySentenceHasATest(String.join(" ", SENTENCES), document());
        Due.end();
    }

    private static void everySentenceHasATest(String tested, String document) {
        int same = 0;
        while (same < tested.length() && same < document.length() && tested.charAt(same) == document.charAt(same)) {
            same++;
        }
        int from = Math.max(0, same - 60);
        Due.dueText("the sentences with a test", tested.substring(from, Math.min(tested.length(), same + 60)),
                document.substring(from, Math.min(document.length(), same + 60)));
    }

    private static void sentence(String words) {
        SENTENCES.add(words);
    }

    private static String document() throws IOException {
        StringBuilder text = new StringBuilder();
        boolean java = false;
        for (String line : Files.readAllLines(DOCUMENT)) {
            if (line.startsWith("```")) {
                java = line.equals("```java");
            } else if (!java && !line.startsWith("#")) {
                text.append(line).append(' ');
            }
        }
        return text.toString().replaceAll("\\s+", " ").strip();
    }

    /** What a thing is told with, so that it is kept whatever else is told. */
    private static VaryStore kept(String lines) {
        return Due.kept(1, "etag: e\n" + lines);
    }

    private static void whatItIs() {
        sentence("What a cache may answer with: things that are kept by the headers on which they hang, how old "
                + "they are, whether they are fresh, may be served though they are not, or must be asked for "
                + "again; and what an answer to that changes.");
        VaryStore x = new VaryStore();
        Due.due("nothing to answer with", Due.ask(x, 2, "lang: de\n"), 0);
        Due.due("keep", Due.keep(x, 2, "vary: lang\netag: \"7\"\ncache-control: max-age=30\n"), 1);
        Due.due("kept by another header", Due.ask(x, 2, "lang: en\n"), 0);
        Due.due("fresh", Due.ask(x, 2, "lang: de\n"), 1);
        Due.due("time", Due.pass(x, 30), 30);
        Due.due("how old it is", Due.thing(x, 0, 1), 30);
        Due.due("though it is not fresh", Due.ask(x, 2, "lang: de\ncache-control: max-stale=1\n"), 2);
        Due.due("asked for again", Due.ask(x, 2, "lang: de\n"), 3);
        Due.due("the answer to that", Due.again(x, 2, "etag: \"7\"\nage: 4\n"), 1);
        Due.due("what it changes", Due.thing(x, 0, 1), 4);
        Due.due("fresh", Due.ask(x, 2, "lang: de\n"), 1);

        sentence("An object is used for at most 512 calls after it has been made; what later calls answer is free.");
        VaryStore y = new VaryStore();
        String text = "vary:" + "n,".repeat(140) + "n\netag:last\n";
        for (int i = 0; i < text.length(); i++) {
            Due.due("type", Due.typed(y, text.charAt(i), 1), 1);
        }
        Due.due("keep", Due.keep(y, 4, ""), 1);
        int passed = 0;
        while (Due.callsOf(y) < 508) {
            passed++;
            Due.due("pass", Due.pass(y, 100000), passed * 100000L);
        }
        Due.due("call 509", Due.ask(y, 4, ""), 3);
        Due.due("call 510", Due.thing(y, 0, 1), passed * 100000L);
        Due.due("call 511", Due.again(y, 4, ""), 1);
        Due.due("call 512", Due.thing(y, 0, 1), 0);
    }

    private static void dueRead(String text, int fault) {
        VaryStore x = new VaryStore();
        int want = fault == VaryStore.NONE ? 0 : Due.THROWS;
        Due.due("read '" + text + "'", Due.ask(x, 0, text), want);
        Due.due("the fault of '" + text + "'", Due.fault(x), fault);
    }

    private static void dueEtag(String text, String want) {
        Due.dueText("etag of '" + text + "'", Due.etag(Due.kept(0, text), 0), want);
    }

    private static void texts() {
        sentence("THE TAPE has at most 300 characters (10, which ends a LINE, and 32 .. 126).");
        VaryStore x = new VaryStore();
        Due.type(x, "etag: " + " ".repeat(100) + "~".repeat(192) + "\n");
        Due.due("two more than 300", Due.typed(x, "a:"), 0);
        Due.due("the 300th, a line without a name", Due.typed(x, "\n"), 1);
        Due.due("it ends a line", Due.keep(x, 0, ""), Due.THROWS);
        Due.due("its place", Due.fault(x), 299);
        Due.due("31", Due.typed(x, 31, 1), 0);
        Due.due("127", Due.typed(x, 127, 1), 0);

        sentence("A TEXT: LINES NAME : VALUE: NAME 1 to 16 letters, digits or - (great letters as small ones), up to "
                + "the first : of the LINE; VALUE: what is behind it up to the line's end, blanks at both ends "
                + "taken away.");
        dueRead("x-9:\n", VaryStore.NONE);
        dueRead("abcdefghij-45678: v\n", VaryStore.NONE);
        dueRead("abcdefghij-456789: v\n", 0);
        dueRead(": v\n", 0);
        dueRead("x.y: v\n", 0);
        dueRead("x : v\n", 0);
        dueEtag("eTaG:  : a : b :  \n", ": a : b :");
        dueEtag("ETAG:Q\n", "Q");

        sentence("Each LINE has its end (10).");
        dueRead("a: b", 0);
        dueRead("a: b\nc: d", 5);
        dueRead("a: b\nc: d\n", VaryStore.NONE);

        sentence("What is no such LINE is wrong; an empty TEXT is good (no LINES).");
        dueRead("a: b\n\nc: d\n", 5);
        dueRead("a\n", 0);
        dueRead(" \n", 0);
        dueRead("", VaryStore.NONE);
        VaryStore y = new VaryStore();
        Due.ask(y, 0, "lang: a\n");
        Due.ask(y, 0, "");
        Due.due("keep for a request without lines", Due.keep(y, 0, "etag: e\nvary: lang\n"), 1);
        Due.due("the request with a line", Due.ask(y, 0, "lang: a\n"), 0);
        Due.due("the request without lines", Due.ask(y, 0, ""), 3);

        sentence("Of LINES with the same NAME the VALUES are one, parted by a comma, in their order.");
        dueEtag("etag: b\nx: y\nEtag: a \netag:c\n", "b,a,c");
        VaryStore z = kept("vary: p\nage: 1\nvary: q\nage: 2\ncache-control: max-age=7\ncache-control: no-cache\n");
        Due.due("names of two lines", Due.thing(z, 0, 4), 2);
        Due.due("1,2 is no number", Due.thing(z, 0, 1), 0);
        Due.due("the first line's max-age", Due.thing(z, 0, 2), 7);
        Due.due("the second line's no-cache", Due.thing(z, 0, 6), 1);
    }

    private static void dueLife(String words, int want) {
        Due.due("life by " + words, Due.thing(kept("cache-control: " + words + "\n"), 0, 2), want);
    }

    private static void listsAndWords() {
        sentence("A LIST is a VALUE cut at commas, blanks at both ends of each taken away, empty ones left out.");
        Due.due("names", Due.thing(kept("vary: ,a b ,  , c;d,,e\n"), 0, 4), 3);
        Due.due("no names", Due.thing(kept("vary: , ,,\n"), 0, 4), 0);

        sentence("A WORD of cache-control: NAME, or NAME = NUMBER (1 to 6 digits; blanks nowhere); great letters as "
                + "small ones; others do not count.");
        dueLife("max-age=8", 8);
        dueLife("x, MAX-Age=000080,y", 80);
        dueLife("max-age=0000800", 0);
        dueLife("max-age=", 0);
        dueLife("max-age", 0);
        dueLife("max-age = 8", 0);
        dueLife("max-age=8s", 0);
        dueLife("max-age=\"8\"", 0);
        Due.due("a word alone", Due.thing(kept("cache-control: Must-Revalidate\n"), 0, 6), 1);
        Due.due("a word with a number", Due.thing(kept("cache-control: must-revalidate=12\n"), 0, 6), 1);
        Due.due("a word with a blank", Due.thing(kept("cache-control: must -revalidate\n"), 0, 6), 0);
        Due.due("a word with no number", Due.thing(kept("cache-control: must-revalidate=x\n"), 0, 6), 0);

        sentence("Of one NAME the last one that counts is taken, with its NUMBER or without.");
        dueLife("max-age=5, s-maxage=9, s-maxage=2", 2);
        dueLife("max-age=5, max-age=3, max-age=4x", 3);
        dueLife("max-age=5, max-age", 0);
        dueLife("max-age, max-age=5", 5);

        sentence("A NUMBER that is asked for as a VALUE (age, expires, date: seconds): 1 to 6 digits, else it is as if "
                + "not there.");
        Due.due("age", Due.thing(kept("age: 123456\n"), 0, 1), 123456);
        Due.due("age of 7 digits", Due.thing(kept("age: 0123456\n"), 0, 1), 0);
        Due.due("age without", Due.thing(kept("age:\n"), 0, 1), 0);
        Due.due("expires", Due.thing(kept("expires: 12\ndate: 2\n"), 0, 2), 10);
        Due.due("expires of 7 digits", Due.thing(kept("expires: 1000012\ndate: 2\n"), 0, 2), 0);
        Due.due("date that is none", Due.thing(kept("expires: 12\ndate: 2s\n"), 0, 2), 0);
    }

    private static void thingsThatAreKept() {
        sentence("TIME is in seconds (0 at first).");
        Due.due("the time", Due.pass(new VaryStore(), 77), 77);

        sentence("A THING that is KEPT has a PATH (0 .. 15), a NAME for what it is (etag: any VALUE; one without letters "
                + "is as if not there), for each NAME in its VARY the VALUE that the REQUEST had (none is a VALUE of "
                + "its own), its LIFE, its AGE when it was KEPT, and since when; flags.");
        VaryStore x = new VaryStore();
        Due.ask(x, 0, "a: 1\nb:\n");
        Due.due("no such path", Due.keep(x, 16, "etag: e\n"), Due.THROWS);
        Due.due("keep", Due.keep(x, 15, "a: 9\nvary: a, b, c\nage: 2\ncache-control: s-maxage=9\netag: \" ,\"\n"), 1);
        Due.due("path", Due.thing(x, 0, 0), 15);
        Due.dueText("etag", Due.etag(x, 0), "\" ,\"");
        Due.due("the values that it had", Due.ask(x, 15, "a: 1\nb:\n"), 1);
        Due.due("another value", Due.ask(x, 15, "a: 9\nb:\n"), 0);
        Due.due("none is not the empty one", Due.ask(x, 15, "a: 1\n"), 0);
        Due.due("the empty one is not none", Due.ask(x, 15, "a: 1\nb:\nc:\n"), 0);
        Due.due("life", Due.thing(x, 0, 2), 9);
        Due.due("age when it was kept", Due.thing(x, 0, 1), 2);
        Due.pass(x, 5);
        Due.due("and since when", Due.thing(x, 0, 1), 7);
        Due.due("a flag", Due.thing(x, 0, 6), 1);
        Due.due("an etag without letters", Due.keep(x, 3, "etag:   \n"), 0);
    }

    private static void dueLifeOf(String lines, int want) {
        Due.due("life of " + lines, Due.thing(kept(lines), 0, 2), want);
    }

    private static void lifeAndAge() {
        sentence("LIFE: cache-control's s-maxage, else max-age, else expires less date (both there; 0 if that is below "
                + "0), else 0.");
        dueLifeOf("date: 5\nexpires: 25\ncache-control: max-age=7, s-maxage=6\n", 6);
        dueLifeOf("date: 5\nexpires: 25\ncache-control: max-age=7\n", 7);
        dueLifeOf("date: 5\nexpires: 25\n", 20);
        dueLifeOf("date: 25\nexpires: 5\n", 0);
        dueLifeOf("expires: 25\n", 0);
        dueLifeOf("date: 5\n", 0);
        dueLifeOf("s-maxage: 6\nmax-age: 7\n", 0);

        sentence("AGE: age (0 without) and the seconds since it was KEPT.");
        VaryStore x = new VaryStore();
        Due.pass(x, 100);
        Due.due("keep", Due.keep(x, 0, "etag: e\nage: 40\n"), 1);
        Due.due("keep", Due.keep(x, 1, "etag: e\n"), 1);
        Due.due("age told", Due.thing(x, 0, 1), 40);
        Due.due("no age told", Due.thing(x, 1, 1), 0);
        Due.pass(x, 3);
        Due.due("age told, 3 seconds", Due.thing(x, 0, 1), 43);
        Due.due("no age told, 3 seconds", Due.thing(x, 1, 1), 3);

        sentence("It is FRESH, if it has no no-cache, and its AGE is below its LIFE.");
        Due.due("below", Due.thing(kept("age: 6\ncache-control: max-age=7\n"), 0, 3), 1);
        Due.due("not below", Due.thing(kept("age: 7\ncache-control: max-age=7\n"), 0, 3), 0);
        Due.due("no-cache", Due.thing(kept("age: 6\ncache-control: max-age=7, no-cache\n"), 0, 3), 0);
    }

    private static void alike() {
        sentence("THE LATEST REQUEST: what ask() read.");
        VaryStore x = new VaryStore();
        Due.ask(x, 5, "a: 1\n");
        Due.due("kept for it, whatever the thing tells", Due.keep(x, 0, "a: 2\netag: e\nvary: a\n"), 1);
        Due.due("keep reads no request", Due.keep(x, 1, "a: 3\netag: e\nvary: a\n"), 1);
        Due.due("again reads no request", Due.again(x, 1, "a: 4\ncache-control: no-store\n"), 1);
        Due.due("keep after that", Due.keep(x, 2, "etag: e\nvary: a\n"), 1);
        for (int path = 0; path < 3; path++) {
            Due.due("by what ask read", Due.ask(x, path, "a: 1\n"), 3);
        }

        sentence("VALUES are alike as VARY goes, if they are the same LIST (order counts, great and small letters do "
                + "too), or both are not there.");
        VaryStore y = new VaryStore();
        Due.ask(y, 0, "a: p ,Q\n");
        Due.keep(y, 0, "etag: e\nvary: A, b\n");
        Due.due("the same list", Due.ask(y, 0, "a:,p,, Q\n"), 3);
        Due.due("another order", Due.ask(y, 0, "a: Q,p\n"), 0);
        Due.due("small letters", Due.ask(y, 0, "a: p,q\n"), 0);
        Due.due("one is there now", Due.ask(y, 0, "a: p,Q\nb: 1\n"), 0);
        Due.due("one is not there now", Due.ask(y, 0, "c: p,Q\n"), 0);
    }

    private static void dueKept(String request, String lines, int want) {
        VaryStore x = new VaryStore();
        Due.ask(x, 6, request);
        Due.due("keep " + lines + " for " + request, Due.keep(x, 6, lines), want);
        Due.due("things", Due.things(x), want);
    }

    private static void keptOrNot() {
        sentence("A THING is KEPT, if its cache-control has no no-store and no private, its VARY has no *, and the LATEST "
                + "REQUEST's has no no-store; and it has more than LIFE 0, or an etag.");
        dueKept("", "etag: e\n", 1);
        dueKept("", "etag: e\ncache-control: no-store\n", 0);
        dueKept("", "etag: e\ncache-control: private\n", 0);
        dueKept("", "etag: e\nvary: b, *\n", 0);
        dueKept("cache-control: no-store\n", "etag: e\n", 0);
        dueKept("cache-control: private\nvary: *\n", "etag: e\n", 1);
        dueKept("", "cache-control: max-age=1\n", 1);
        dueKept("", "cache-control: max-age=0\n", 0);
        dueKept("", "age: 3\n", 0);

        sentence("It takes the place of one of the same PATH with the same VARY (as a LIST, small letters) and VALUES.");
        VaryStore x = new VaryStore();
        Due.ask(x, 0, "a: 1\n");
        Due.keep(x, 0, "etag: one\nvary: a, B\n");
        Due.keep(x, 1, "etag: two\nvary: a, B\n");
        Due.keep(x, 0, "etag: three\nvary: B, a\n");
        Due.due("another path, another vary", Due.things(x), 3);
        Due.ask(x, 0, "a: 2\n");
        Due.keep(x, 0, "etag: four\nvary: a, b\n");
        Due.due("another value", Due.things(x), 4);
        Due.ask(x, 0, "a: 1\n");
        Due.keep(x, 0, "etag: five\nvary: A,b\n");
        Due.due("the same", Due.things(x), 4);
        Due.dueText("the first of them went", Due.etag(x, 0), "two");

        sentence("At most 24 are KEPT: else the one goes that was KEPT or USED longest ago.");
        VaryStore y = new VaryStore();
        for (int i = 0; i < 24; i++) {
            Due.ask(y, 0, "a:" + i + "\n");
            Due.keep(y, i % 16, "etag:" + (char) ('A' + i) + "\nvary:a\n");
        }
        Due.due("24", Due.things(y), 24);
        Due.due("the first is used", Due.ask(y, 0, "a:0\ncache-control:max-stale\n"), 2);
        Due.keep(y, 0, "etag:new\n");
        Due.due("24 still", Due.things(y), 24);
        Due.due("used, it stays", Due.thing(y, 0, 100), 'A');
        Due.due("the second went", Due.thing(y, 1, 100), 'C');
        Due.due("the new one", Due.thing(y, 23, 100), 'n');
    }

    private static void asked() {
        sentence("ASKED for a PATH: of those of this PATH whose VALUES are alike those of the REQUEST the one that was "
                + "KEPT latest (made again counts as KEPT) is THE ONE.");
        VaryStore x = new VaryStore();
        Due.ask(x, 0, "a: 1\nb: 1\n");
        Due.keep(x, 0, "vary: a\ncache-control: max-age=9\n");
        Due.keep(x, 0, "vary: b\netag: e\n");
        Due.keep(x, 1, "cache-control: max-age=9\n");
        Due.due("kept latest: by b", Due.ask(x, 0, "a: 1\nb: 1\n"), 3);
        Due.due("alike: by a alone", Due.ask(x, 0, "a: 1\nb: 2\n"), 1);
        Due.due("made again: by a", Due.again(x, 0, ""), 1);
        Due.due("kept latest: by a", Due.ask(x, 0, "a: 1\nb: 1\n"), 1);

        sentence("Without one: MISS.");
        Due.due("not alike", Due.ask(x, 0, "a: 2\nb: 2\n"), 0);
        Due.due("another path", Due.ask(x, 2, "a: 1\nb: 1\n"), 0);
    }

    /** Asks with WORDS for a thing with LIFE 20 and AGE 15 (or more seconds later). */
    private static void dueAnswer(String own, int seconds, String words, int want) {
        VaryStore x = kept("age: 15\ncache-control: max-age=20, " + own + "\n");
        if (seconds > 0) {
            Due.pass(x, seconds);
        }
        Due.due("ask with " + words + " for one with " + own + ", " + seconds + " seconds later",
                Due.ask(x, 1, "cache-control: " + words + "\n"), want);
    }

    private static void wordsOfTheRequest() {
        sentence("The REQUEST's cache-control: no-cache: it must be made again.");
        dueAnswer("", 0, "", 1);
        dueAnswer("", 0, "no-cache", 3);
        dueAnswer("", 5, "no-cache, max-stale", 3);

        sentence("max-age=N: not with AGE above N.");
        dueAnswer("", 0, "max-age=15", 1);
        dueAnswer("", 0, "max-age=14", 3);

        sentence("min-fresh=N: only if AGE + N is below LIFE.");
        dueAnswer("", 0, "min-fresh=4", 1);
        dueAnswer("", 0, "min-fresh=5", 3);

        sentence("max-stale, max-stale=N: also if it is not FRESH (but not with no-cache, must-revalidate, "
                + "proxy-revalidate or s-maxage of its own), without N whatever, with N if AGE is below LIFE + N "
                + "(min-fresh does not count then: what is FRESH is served as FRESH).");
        dueAnswer("", 5, "", 3);
        dueAnswer("", 5, "max-stale", 2);
        dueAnswer("", 100000, "max-stale", 2);
        dueAnswer("", 8, "max-stale=4", 2);
        dueAnswer("", 8, "max-stale=3", 3);
        dueAnswer("", 8, "max-stale=4, min-fresh=1", 2);
        dueAnswer("", 0, "max-stale=4, min-fresh=5", 1);
        dueAnswer("", 0, "max-stale, min-fresh=5", 1);
        for (String own : new String[] {"no-cache", "must-revalidate", "proxy-revalidate", "s-maxage=20"}) {
            dueAnswer(own, 5, "max-stale", 3);
            dueAnswer(own, 5, "max-stale=9", 3);
            dueAnswer(own, 4, "max-stale", own.equals("no-cache") ? 3 : 1);
        }

        sentence("only-if-cached: instead of MISS or AGAIN: REFUSED.");
        dueAnswer("", 0, "only-if-cached", 1);
        dueAnswer("", 5, "only-if-cached, max-stale", 2);
        dueAnswer("", 5, "only-if-cached", 4);
        Due.due("instead of a miss", Due.ask(new VaryStore(), 1, "cache-control: only-if-cached\n"), 4);
    }

    private static void promiseOne() {
        sentence("`VaryStore()`: Nothing is KEPT; there has been no REQUEST: it is as if it had no LINES.");
        VaryStore x = new VaryStore();
        Due.due("things", Due.things(x), 0);
        Due.due("none to be made again", Due.again(x, 0, ""), 0);
        Due.due("keep for no request", Due.keep(x, 0, "etag: e\nvary: a\n"), 1);
        Due.due("made again for no request", Due.again(x, 0, ""), 1);
        Due.due("a request with the line", Due.ask(x, 0, "a:\n"), 0);
        Due.due("a request without it", Due.ask(x, 0, ""), 3);
    }

    private static void promiseTwo() {
        sentence("`boolean type(long word, int n)`: The n (1 .. 8) lowest bytes of word, the highest first, go to the "
                + "tape: true; false, changing nothing, for another n, a byte that is not 10 or 32 .. 126, or if it "
                + "would have more than 300.");
        VaryStore x = new VaryStore();
        Due.due("etag:", Due.typed(x, 0x4141416574616758L >> 8, 4), 1);
        Due.due("n 0", Due.typed(x, 'x', 0), 0);
        Due.due("n 9", Due.typed(x, 'x', 9), 0);
        Due.due(": and 7 letters", Due.typed(x, 0x3A61626364656667L, 8), 1);
        Due.due("the highest of three is 9", Due.typed(x, 0x094141L, 3), 0);
        Due.due("the lowest of three is 0", Due.typed(x, 0x414100L, 3), 0);
        Due.due("the end, with 255 above", Due.typed(x, 0xFF0AL, 1), 1);
        Due.due("keep", Due.keep(x, 0, ""), 1);
        Due.dueText("what was typed", Due.etag(x, 0), "abcdefg");
        Due.type(x, "etag:" + "y".repeat(290));
        Due.due("301", Due.typed(x, "zzzzz\n"), 0);
        Due.due("300", Due.typed(x, "zzzz\n"), 1);
        Due.due("keep", Due.keep(x, 0, ""), 1);
        Due.due("letters", Due.thing(x, 0, 5), 294);
    }

    private static void promiseThree() {
        sentence("`int ask(int path) throws IllegalArgumentException`: The tape (which is empty then) is a REQUEST for a "
                + "PATH: 0 MISS, 1 THE ONE is FRESH and may be served as it is, 2 it may be served though it is not "
                + "FRESH, 3 AGAIN: it must be asked for again (with 1 and 2 it is USED).");
        VaryStore x = new VaryStore();
        Due.due("0", Due.ask(x, 8, "a: 1\n"), 0);
        Due.due("the tape is empty", Due.keep(x, 8, "vary: a\ncache-control: max-age=9\n"), 1);
        Due.due("1", Due.ask(x, 8, "a: 1\n"), 1);
        Due.pass(x, 9);
        Due.due("2", Due.ask(x, 8, "a: 1\ncache-control: max-stale\n"), 2);
        Due.due("3", Due.ask(x, 8, "a: 1\n"), 3);
        Due.due("used, things stay", Due.things(x), 1);

        sentence("4 REFUSED.");
        Due.due("4", Due.ask(x, 8, "a: 1\ncache-control: only-if-cached\n"), 4);

        sentence("IllegalArgumentException: the TEXT is wrong, or there is no such PATH (the LATEST REQUEST stays).");
        Due.due("a wrong text", Due.ask(x, 8, "a: 2\n!\n"), Due.THROWS);
        Due.due("no such path", Due.ask(x, -1, "a: 2\n"), Due.THROWS);
        Due.due("no such path", Due.ask(x, 16, "a: 2\n"), Due.THROWS);
        Due.due("the one of the request that stays", Due.again(x, 8, ""), 1);
    }

    private static void promiseFour() {
        sentence("`boolean keep(int path) throws IllegalArgumentException`: The tape (which is empty then) tells of a "
                + "THING that came for a PATH, for the LATEST REQUEST: true: it is KEPT; false if it may not be (one "
                + "of the same PATH, VARY and VALUES goes then).");
        VaryStore x = new VaryStore();
        Due.ask(x, 8, "a: 1\n");
        Due.due("true", Due.keep(x, 9, "etag: e\nvary: a\n"), 1);
        Due.due("the tape is empty", Due.keep(x, 7, "etag: e\nvary: a\n"), 1);
        Due.due("it is kept, for the request", Due.ask(x, 9, "a: 1\n"), 3);
        Due.ask(x, 9, "a: 2\n");
        Due.due("false for other values", Due.keep(x, 9, "vary: a\n"), 0);
        Due.due("none went", Due.things(x), 2);
        Due.ask(x, 9, "a: 1\n");
        Due.due("false", Due.keep(x, 9, "vary: a\n"), 0);
        Due.due("one went", Due.things(x), 1);
        Due.due("of another path it stays", Due.thing(x, 0, 0), 7);

        sentence("IllegalArgumentException as above.");
        Due.due("a wrong text", Due.keep(x, 7, "etag: f\nvary: a"), Due.THROWS);
        Due.due("no such path", Due.keep(x, 16, "etag: f\nvary: a\n"), Due.THROWS);
        Due.due("no such path", Due.keep(x, -1, "etag: f\nvary: a\n"), Due.THROWS);
        Due.due("things", Due.things(x), 1);
        Due.dueText("nothing was kept", Due.etag(x, 0), "e");
        Due.due("the latest request stays", Due.again(x, 7, ""), 1);
    }

    private static void promiseFive() {
        sentence("`boolean again(int path) throws IllegalArgumentException`: The tape (which is empty then) tells that THE "
                + "ONE of the LATEST REQUEST for a PATH is still the same: it is made again: its etag, VARY and VALUES "
                + "stay, all else is as this TEXT tells (cache-control, if it is there, else as it was; expires, date, "
                + "age as they are told), it is KEPT from now on: true; false if there is none, or the TEXT has an "
                + "etag that is another one (nothing changes).");
        VaryStore x = new VaryStore();
        Due.ask(x, 8, "a: 1, 2\n");
        Due.keep(x, 8, "etag: e\nvary: a\nage: 5\ncache-control: max-age=9, must-revalidate\n");
        Due.pass(x, 50);
        Due.ask(x, 8, "a: 1,2,\nb: 7\n");
        Due.due("false: none", Due.again(x, 9, "age: 1\n"), 0);
        Due.due("false: another etag", Due.again(x, 8, "etag: f\nage: 1\ncache-control: no-cache\n"), 0);
        Due.due("nothing changes", Due.thing(x, 0, 1), 55);
        Due.due("true", Due.again(x, 8, "etag: e\nvary: b\nage: 2\nexpires: 90\ndate: 10\n"), 1);
        Due.due("kept from now on, age as told", Due.thing(x, 0, 1), 2);
        Due.due("cache-control as it was", Due.thing(x, 0, 2), 9);
        Due.due("its flag too", Due.thing(x, 0, 6), 1);
        Due.due("vary stays", Due.ask(x, 8, "a: 1, 2\nb: 8\n"), 1);
        Due.due("values stay", Due.ask(x, 8, "a: 1\nb: 7\n"), 0);
        Due.ask(x, 8, "a: 1, 2\n");
        Due.due("true, the tape was empty", Due.again(x, 8, "cache-control: x\nexpires: 90\ndate: 10\n"), 1);
        Due.dueText("etag stays", Due.etag(x, 0), "e");
        Due.due("age without", Due.thing(x, 0, 1), 0);
        Due.due("expires and date as told", Due.thing(x, 0, 2), 80);
        Due.due("cache-control as told", Due.thing(x, 0, 6), 0);
        Due.due("true", Due.again(x, 8, ""), 1);
        Due.due("expires and date are not told", Due.thing(x, 0, 2), 0);

        sentence("IllegalArgumentException as above.");
        Due.due("a wrong text", Due.again(x, 8, "age: 7\n:\n"), Due.THROWS);
        Due.due("no such path", Due.again(x, 16, "age: 7\n"), Due.THROWS);
        Due.due("no such path", Due.again(x, -1, "age: 7\n"), Due.THROWS);
        Due.due("nothing changed", Due.thing(x, 0, 1), 0);
        Due.due("the latest request stays", Due.again(x, 8, "age: 7\n"), 1);
    }

    private static void promiseSix() {
        sentence("`int fault()`: The place of the first character that is wrong in the latest TEXT that was read: of a "
                + "LINE without : or with a bad NAME the LINE's first one; of one that has no end its first one; NONE "
                + "if it was good (or none was read).");
        VaryStore x = new VaryStore();
        Due.due("none was read", Due.fault(x), VaryStore.NONE);
        Due.due("without :", Due.ask(x, 0, "a: b\nab c\nd\n"), Due.THROWS);
        Due.due("its first", Due.fault(x), 5);
        Due.due("a bad name", Due.keep(x, 0, "a: b\ncd:e\nx_y: z\n"), Due.THROWS);
        Due.due("its first", Due.fault(x), 10);
        Due.due("no end", Due.again(x, 0, "a: b\ncd: ef"), Due.THROWS);
        Due.due("its first", Due.fault(x), 5);
        Due.due("good", Due.ask(x, 0, "a: b\n"), 0);
        Due.due("good", Due.fault(x), VaryStore.NONE);
    }

    private static void promisesSevenAndEight() {
        sentence("`int purge(int path)`: All THINGS of a PATH go: how many; 0 if there is no such PATH.");
        VaryStore x = new VaryStore();
        Due.keep(x, 3, "etag: one\n");
        Due.keep(x, 4, "etag: two\n");
        Due.keep(x, 3, "etag: three\nvary: a\n");
        Due.due("no such path", Due.purge(x, 16), 0);
        Due.due("no such path", Due.purge(x, -1), 0);
        Due.due("none of this path", Due.purge(x, 5), 0);
        Due.due("two of this path", Due.purge(x, 3), 2);
        Due.due("things", Due.things(x), 1);
        Due.dueText("of another path", Due.etag(x, 0), "two");
        Due.due("gone", Due.ask(x, 3, ""), 0);

        sentence("`int pass(int n) throws IllegalArgumentException`: n (1 .. 100000) seconds go by: the TIME.");
        Due.due("pass", Due.pass(x, 1), 1);
        Due.due("pass", Due.pass(x, 100000), 100001);
        Due.due("they went by", Due.thing(x, 0, 1), 100001);

        // That it can not be above 1000000000 no 512 calls can show: CallsEdgesTest goes beyond them.
        sentence("IllegalArgumentException: another n, or it would be above 1000000000.");
        Due.due("pass", Due.pass(x, 0), Due.THROWS);
        Due.due("pass", Due.pass(x, -1), Due.THROWS);
        Due.due("pass", Due.pass(x, 100001), Due.THROWS);
        Due.due("none went by", Due.thing(x, 0, 1), 100001);
    }

    private static void promisesNineAndTen() {
        sentence("`int thing(int i, int what) throws NoSuchElementException`: Of the i-th THING (in the order in which "
                + "they were KEPT, the earliest first), what 0: its PATH, 1: its AGE, 2: its LIFE, 3: 1 if FRESH, 4: "
                + "NAMES in its VARY, 5: letters of its etag, 6: 1 if it may not be served when it is not FRESH, 100 + "
                + "k: letter k of its etag.");
        VaryStore x = new VaryStore();
        Due.keep(x, 14, "etag: xyz\nvary: a, b\nage: 3\ncache-control: max-age=20\n");
        Due.pass(x, 4);
        Due.keep(x, 13, "cache-control: proxy-revalidate\nexpires: 5\ndate: 4\nage: 8\n");
        int[][] want = {{14, 7, 20, 1, 2, 3, 0}, {13, 8, 1, 0, 0, 0, 1}};
        for (int what = 0; what <= 6; what++) {
            Due.due("of the first, " + what, Due.thing(x, 0, what), want[0][what]);
            Due.due("of the second, " + what, Due.thing(x, 1, what), want[1][what]);
        }
        Due.due("letter 0", Due.thing(x, 0, 100), 'x');
        Due.due("letter 2", Due.thing(x, 0, 102), 'z');

        sentence("NoSuchElementException: there is none such.");
        Due.due("letter 3", Due.thing(x, 0, 103), Due.THROWS);
        Due.due("letter 0 of none", Due.thing(x, 1, 100), Due.THROWS);
        Due.due("what 7", Due.thing(x, 0, 7), Due.THROWS);
        Due.due("what -1", Due.thing(x, 0, -1), Due.THROWS);
        Due.due("what 99", Due.thing(x, 0, 99), Due.THROWS);
        Due.due("thing 2", Due.thing(x, 2, 0), Due.THROWS);
        Due.due("thing -1", Due.thing(x, -1, 0), Due.THROWS);

        sentence("`int things()`: How many THINGS are KEPT.");
        Due.due("two", Due.things(x), 2);
        Due.purge(x, 14);
        Due.due("one", Due.things(x), 1);
        Due.purge(x, 13);
        Due.due("none", Due.things(x), 0);
    }

    /** What is free has no test. */
    private static void notPromised() {
        sentence("How the state is held inside the object is free, as are the speed of each call, the text of toString "
                + "and the behaviour of equals and hashCode.");
        sentence("Use of one object from several threads at once is not promised to be safe.");
        sentence("Nothing is promised beyond the answers and state changes described above, and nothing about an object "
                + "after its 512th call.");
    }
}
