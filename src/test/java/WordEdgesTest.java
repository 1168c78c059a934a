/**
 * The boundaries of VALUES on several LINES, of LIST, WORD of cache-control and NUMBER. Above each
 * test stands the document's sentence.
 */
public final class WordEdgesTest {
    public static void main(String[] args) {
        valuesAreOne();
        asManyLinesAsThereMayBe();
        listCutAtCommas();
        blanksAndEmptyItems();
        numberOfAWord();
        blanksNowhere();
        othersDoNotCount();
        greatLettersInWords();
        nameOrNameWithNumber();
        theLastThatCounts();
        numbersAsValues();
        Due.end();
    }

    private static void etag(String text, String want) {
        VaryStore x = Due.kept(0, text);
        Due.dueText("etag of " + text, Due.etag(x, 0), want);
    }

    // "Of LINES with the same NAME the VALUES are one, parted by a comma, in their order."
    private static void valuesAreOne() {
        etag("etag: b\n", "b");
        etag("etag: b\netag: a\n", "b,a");
        etag("etag: b\nage: 1\netag: a\nvary: z\nETAG: c\n", "b,a,c");
        etag("etag:\netag: a\n", ",a");
        etag("etag: a\netag:\n", "a,");
        etag("etag:\netag:\netag:\n", ",,");
        etag("etag:  a \netag:  b  \n", "a,b");
        etag("etag: a,\netag: ,b\n", "a,,,b");
        etag("etag: a\netagx: b\netag-: c\netag: d\n", "a,d");
        VaryStore x = Due.kept(0, "vary: a\netag: e\nvary: b,c\nvary:\nvary: d\n");
        Due.due("names of three lines", Due.thing(x, 0, 4), 4);
        VaryStore y = Due.kept(0, "cache-control: max-age=5\nx: y\ncache-control: s-maxage=3\n");
        Due.due("life of two lines", Due.thing(y, 0, 2), 3);
    }

    private static void asManyLinesAsThereMayBe() {
        VaryStore x = new VaryStore();
        Due.due("ask with 75 lines", Due.ask(x, 0, "a:b\n".repeat(75)), 0);
        Due.due("keep", Due.keep(x, 0, "etag:e\nvary:a\n"), 1);
        Due.due("75 items", Due.ask(x, 0, "a:" + "b,".repeat(74) + "b\n"), 3);
        Due.due("74 items", Due.ask(x, 0, "a:b\n".repeat(74)), 0);
        Due.due("75 lines, the last is another", Due.ask(x, 0, "a:b\n".repeat(74) + "a:c\n"), 0);
        Due.due("75 lines, the first is another", Due.ask(x, 0, "a:c\n" + "a:b\n".repeat(74)), 0);
        Due.due("100 lines", Due.ask(x, 1, "a:\n".repeat(100)), 0);
        Due.due("keep", Due.keep(x, 1, "etag:e\nvary:a\n"), 1);
        Due.due("one line without items", Due.ask(x, 1, "a:\n"), 3);
        Due.due("100 lines of others", Due.ask(x, 1, "b:\n".repeat(99) + "a:\n"), 3);
        Due.due("none of 100 lines", Due.ask(x, 1, "b:\n".repeat(100)), 0);
    }

    private static void names(String vary, int want) {
        VaryStore x = Due.kept(0, "etag:e\nvary:" + vary + "\n");
        Due.due("names in '" + vary + "'", Due.thing(x, 0, 4), want);
    }

    // "A LIST is a VALUE cut at commas"
    private static void listCutAtCommas() {
        names("", 0);
        names("a", 1);
        names("a,b", 2);
        names("a;b", 1);
        names("a b", 1);
        names("a,b,c", 3);
        names("a,".repeat(141) + "b", 142);
        names("a,".repeat(142) + "b", 143);
        names(",".repeat(285), 0);
        VaryStore x = new VaryStore();
        Due.due("149 items", Due.ask(x, 0, "a:" + "b,".repeat(148) + "b\n"), 0);
        Due.due("keep", Due.keep(x, 0, "etag:e\nvary:a\n"), 1);
        Due.due("149 items", Due.ask(x, 0, "a:" + "b,".repeat(148) + "b\n"), 3);
        Due.due("the last of 149", Due.ask(x, 0, "a:" + "b,".repeat(148) + "c\n"), 0);
        Due.due("148 items", Due.ask(x, 0, "a:" + "b,".repeat(147) + "b\n"), 0);
        Due.due("items joined", Due.ask(x, 0, "a:" + "b,".repeat(147) + "b b\n"), 0);
    }

    // "blanks at both ends of each taken away, empty ones left out"
    private static void blanksAndEmptyItems() {
        names(" ", 0);
        names(",", 0);
        names(" , ", 0);
        names(",a", 1);
        names("a,", 1);
        names("a,,b", 2);
        names("a, ,b", 2);
        names("  ,,  a  ,,  b  ,,  ", 2);
        VaryStore x = new VaryStore();
        Due.ask(x, 0, "a:x y,z\n");
        Due.due("keep", Due.keep(x, 0, "etag:e\nvary:a\n"), 1);
        String[] same = {"x y,z", "x y, z", "x y ,z", " , x y ,, z , ", "x y,z,", ",x y,z", "x y\na: z"};
        for (String value : same) {
            Due.due("the list " + value, Due.ask(x, 0, "a:" + value + "\n"), 3);
        }
        String[] other = {"x  y,z", "xy,z", "x,y,z", "x y z", "x y", "z", "x y,z,z", "", ",", "x y,zz", "x y;z"};
        for (String value : other) {
            Due.due("the other list " + value, Due.ask(x, 0, "a:" + value + "\n"), 0);
        }
        for (char letter = 32; letter <= 126; letter++) {
            Due.due("cut at " + letter, Due.ask(x, 0, "a:x y" + letter + "z\n"), letter == ',' ? 3 : 0);
        }
    }

    private static void life(String words, int want) {
        VaryStore x = Due.kept(0, "etag: e\ncache-control: " + words + "\n");
        Due.due("life by " + words, Due.thing(x, 0, 2), want);
    }

    // "NUMBER (1 to 6 digits"
    private static void numberOfAWord() {
        life("max-age=", 0);
        life("max-age=1", 1);
        life("max-age=9", 9);
        life("max-age=0", 0);
        life("max-age=12345", 12345);
        life("max-age=123456", 123456);
        life("max-age=999999", 999999);
        life("max-age=000009", 9);
        life("max-age=1234567", 0);
        life("max-age=0000009", 0);
        life("max-age=99999999999999999999", 0);
        life("s-maxage=123456", 123456);
        life("s-maxage=1234567, max-age=7", 7);
        life("max-age=/", 0);
        life("max-age=:", 0);
        life("max-age=1/", 0);
        life("max-age=:1", 0);
        life("max-age=1.5", 0);
        life("max-age=+1", 0);
        life("max-age=-1", 0);
        life("max-age=0x1", 0);
        life("max-age=\"5\"", 0);
    }

    // "blanks nowhere"
    private static void blanksNowhere() {
        life("max-age= 5", 0);
        life("max-age =5", 0);
        life("max-age = 5", 0);
        life("max-age=5 5", 0);
        life("max-age=5 x", 0);
        life("max -age=5", 0);
        life("max age=5", 0);
        life("  max-age=5  ", 5);
        life(" ,  max-age=5  , ", 5);
    }

    // "others do not count"
    private static void othersDoNotCount() {
        life("max-age==5", 0);
        life("max-age=5=5", 0);
        life("=5", 0);
        life("=", 0);
        life("xmax-age=5", 0);
        life("max-agex=5", 0);
        life("max-ag=5", 0);
        life("max-age5", 0);
        life("max-age:5", 0);
        life("max-age;5", 0);
        life("x=max-age=5", 0);
        life("max-age=5;x", 0);
        life("s-maxag=5", 0);
        life("s-maxagee=5", 0);
        life("max-age=5, max-age=x", 5);
        life("max-age=5, max-age=", 5);
        life("max-age=5, max-age=1234567", 5);
        life("max-age=5, max-age =6", 5);
    }

    // "great letters as small ones"
    private static void greatLettersInWords() {
        life("MAX-AGE=5", 5);
        life("mAx-aGe=5", 5);
        life("S-MaxAge=4, max-age=5", 4);
        life("max-age=5, MAX-AGE=6", 6);
        VaryStore x = new VaryStore();
        Due.due("NO-STORE", Due.keep(x, 0, "cache-control: NO-STORE, max-age=5\n"), 0);
        Due.due("Private", Due.keep(x, 0, "cache-control: Private, max-age=5\n"), 0);
        Due.due("kept", Due.keep(x, 0, "cache-control: max-age=5\n"), 1);
        Due.due("No-Cache", Due.ask(x, 0, "Cache-Control: No-Cache\n"), 3);
        Due.due("MIN-FRESH", Due.ask(x, 0, "Cache-Control: MIN-FRESH=5\n"), 3);
        Due.due("Only-If-Cached", Due.ask(x, 1, "Cache-Control: Only-If-Cached\n"), 4);
        Due.pass(x, 5);
        Due.due("Max-Stale", Due.ask(x, 0, "Cache-Control: Max-Stale=1\n"), 2);
    }

    // "A WORD of cache-control: NAME, or NAME = NUMBER": each of the two counts as the WORD.
    private static void nameOrNameWithNumber() {
        String[] strict = {"must-revalidate", "proxy-revalidate", "no-cache", "s-maxage"};
        String[] behind = {"", "=0", "=1", "=999999"};
        for (String word : strict) {
            for (String number : behind) {
                VaryStore x = Due.kept(0, "etag: e\ncache-control: " + word + number + "\n");
                Due.due("strict by " + word + number, Due.thing(x, 0, 6), 1);
            }
            String[] none = {"=", "=1234567", "=x", " =1", "= 1", "x", "=1 1"};
            for (String number : none) {
                VaryStore x = Due.kept(0, "etag: e\ncache-control: " + word + number + "\n");
                Due.due("not strict by " + word + number, Due.thing(x, 0, 6), 0);
            }
        }
        for (String number : behind) {
            VaryStore x = new VaryStore();
            Due.due("no-store", Due.keep(x, 0, "etag: e\ncache-control: no-store" + number + "\n"), 0);
            Due.due("private", Due.keep(x, 0, "etag: e\ncache-control: private" + number + "\n"), 0);
            Due.ask(x, 0, "cache-control: no-store" + number + "\n");
            Due.due("the request's", Due.keep(x, 0, "etag: e\n"), 0);
            Due.due("only-if-cached", Due.ask(x, 0, "cache-control: only-if-cached" + number + "\n"), 4);
        }
    }

    // "Of one NAME the last one that counts is taken, with its NUMBER or without."
    private static void theLastThatCounts() {
        life("max-age=5, max-age=6, max-age=7", 7);
        life("max-age=7, max-age=0", 0);
        life("max-age=5, max-age", 0);
        life("max-age, max-age=5", 5);
        life("max-age=5, s-maxage=6, max-age=7", 6);
        life("s-maxage=6, max-age=7, s-maxage=2", 2);
        life("s-maxage=6, max-age=7, s-maxage", 7);
        life("max-age=5\ncache-control: max-age=6", 6);
        life("max-age=5\ncache-control:", 5);
        life("max-age=5\ncache-control: max-age", 0);
        VaryStore x = Due.kept(0, "cache-control: max-age=9\n");
        Due.pass(x, 5);
        Due.due("the last max-age", Due.ask(x, 0, "cache-control: max-age=4, max-age=5\n"), 1);
        Due.due("the last max-age", Due.ask(x, 0, "cache-control: max-age=5, max-age=4\n"), 3);
        Due.due("the last, without", Due.ask(x, 0, "cache-control: max-age=4, max-age\n"), 1);
        Due.due("the last min-fresh", Due.ask(x, 0, "cache-control: min-fresh=4, min-fresh=3\n"), 1);
        Due.due("the last min-fresh", Due.ask(x, 0, "cache-control: min-fresh=3, min-fresh=4\n"), 3);
        Due.due("the last, without", Due.ask(x, 0, "cache-control: min-fresh=4, min-fresh\n"), 1);
        Due.pass(x, 5);
        Due.due("the last max-stale", Due.ask(x, 0, "cache-control: max-stale=1, max-stale=2\n"), 2);
        Due.due("the last max-stale", Due.ask(x, 0, "cache-control: max-stale=2, max-stale=1\n"), 3);
        Due.due("the last, without", Due.ask(x, 0, "cache-control: max-stale=1, max-stale\n"), 2);
        Due.due("the last, with", Due.ask(x, 0, "cache-control: max-stale, max-stale=1\n"), 3);
        Due.due("the last that counts", Due.ask(x, 0, "cache-control: max-stale, max-stale=x\n"), 2);
    }

    private static void asValue(String value, int want) {
        VaryStore x = Due.kept(0, "etag: e\nage:" + value + "\n");
        Due.due("age " + value, Due.thing(x, 0, 1), Math.max(0, want));
        VaryStore y = Due.kept(0, "etag: e\ndate: 0\nexpires:" + value + "\n");
        Due.due("expires " + value, Due.thing(y, 0, 2), Math.max(0, want));
        VaryStore z = Due.kept(0, "etag: e\nexpires: 999999\ndate:" + value + "\n");
        Due.due("date " + value, Due.thing(z, 0, 2), want < 0 ? 0 : 999999 - want);
    }

    // "A NUMBER that is asked for as a VALUE (age, expires, date: seconds): 1 to 6 digits, else it is
    // as if not there." (-1 stands for that)
    private static void numbersAsValues() {
        asValue("", -1);
        asValue("  ", -1);
        asValue("0", 0);
        asValue("1", 1);
        asValue("  1  ", 1);
        asValue("00001", 1);
        asValue("000001", 1);
        asValue("0000001", -1);
        asValue("99999", 99999);
        asValue("100000", 100000);
        asValue("999998", 999998);
        asValue("999999", 999999);
        asValue("1000000", -1);
        asValue("99999999999", -1);
        asValue("-1", -1);
        asValue("+1", -1);
        asValue("1 2", -1);
        asValue("1,", -1);
        asValue(",1", -1);
        asValue("1x", -1);
        asValue("x1", -1);
        asValue("1.", -1);
        asValue("/", -1);
        asValue(":", -1);
        asValue("1=1", -1);
    }
}
