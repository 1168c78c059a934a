/**
 * The boundaries of THE TAPE, TEXT, LINE, NAME and VALUE, and of promises 2 and 6. Above each test
 * stands the document's sentence.
 */
public final class TextEdgesTest {
    private static final String NAME_LETTERS =
            "abcdefghijklmnopqrstuvwxyzABCDEFGHIJKLMNOPQRSTUVWXYZ0123456789-";

    public static void main(String[] args) {
        tapeOfThreeHundred();
        everyByte();
        everyPlaceOfABadByte();
        howManyBytes();
        highestFirst();
        nameOfOneToSixteen();
        lettersOfAName();
        firstColon();
        greatLettersInNames();
        blanksAtBothEnds();
        linesWithoutEnd();
        emptyText();
        linesThatAreNone();
        placeOfTheFault();
        theFirstFaultIsTold();
        faultOfTheLatestText();
        Due.end();
    }

    private static String full(int length) {
        return "etag:" + "e".repeat(length - 6) + "\n";
    }

    // "or if it would have more than 300": what is typed then is as long as before.
    private static void tapeOfThreeHundred() {
        for (int n = 1; n <= 8; n++) {
            String part = "x".repeat(n - 1) + "\n";
            VaryStore x = new VaryStore();
            Due.type(x, "etag:" + "e".repeat(295 - n));
            Due.due("up to 300 by " + n, Due.typed(x, part), 1);
            Due.due("300 and 1", Due.typed(x, "\n"), 0);
            Due.due("300 and " + n, Due.typed(x, part), 0);
            Due.due("keep of 300", Due.keep(x, 0, ""), 1);
            Due.due("letters of 300", Due.thing(x, 0, 5), 294);
            VaryStore y = new VaryStore();
            Due.type(y, "etag:" + "e".repeat(296 - n));
            Due.due("up to 301 by " + n, Due.typed(y, part), 0);
            if (n > 1) {
                Due.due("up to 300 behind the refusal", Due.typed(y, part.substring(1)), 1);
                Due.due("keep of 300", Due.keep(y, 0, ""), 1);
                Due.due("letters of 300", Due.thing(y, 0, 5), 294);
            } else {
                Due.due("300 without an end", Due.keep(y, 0, ""), Due.THROWS);
                Due.due("its fault", Due.fault(y), 0);
            }
            Due.due("a tape of 300 again", Due.keep(y, 1, full(300)), 1);
        }
        VaryStore x = new VaryStore();
        Due.type(x, full(299));
        Due.due("299 and 2", Due.typed(x, "a:"), 0);
        Due.due("299", Due.keep(x, 0, ""), 1);
        Due.due("letters of 299", Due.thing(x, 0, 5), 293);
    }

    // "a byte that is not 10 or 32 .. 126"
    private static void everyByte() {
        for (int letter = 0; letter < 256; letter++) {
            VaryStore x = new VaryStore();
            Due.type(x, "etag:(");
            int good = letter == 10 || (letter >= 32 && letter <= 126) ? 1 : 0;
            Due.due("byte " + letter, Due.typed(x, letter, 1), good);
            Due.type(x, ")\n");
            if (letter == 10) {
                Due.due("10 ends a line", Due.keep(x, 0, ""), Due.THROWS);
                Due.due("its fault", Due.fault(x), 7);
            } else {
                Due.due("keep", Due.keep(x, 0, ""), 1);
                Due.dueText("byte " + letter, Due.etag(x, 0), good == 1 ? "(" + (char) letter + ")" : "()");
            }
        }
    }

    // "false, changing nothing": wherever among the n the wrong byte is; those above do not count.
    private static void everyPlaceOfABadByte() {
        int[] bad = {0, 9, 11, 31, 127, 128, 255};
        for (int letter : bad) {
            for (int place = 0; place < 8; place++) {
                VaryStore x = new VaryStore();
                Due.type(x, "etag:");
                long word = Due.wordOf("aaaaaaa\n") & ~(255L << (8 * place)) | ((long) letter << (8 * place));
                for (int n = 8; n > place; n--) {
                    Due.due("byte " + letter + " at " + place + " of " + n, Due.typed(x, word, n), 0);
                }
                Due.due("nothing was typed", Due.typed(x, "\n"), 1);
                Due.due("no etag, not kept", Due.keep(x, 0, ""), 0);
                if (place > 0) {
                    Due.type(x, "etag:");
                    Due.due("the bad byte is above", Due.typed(x, word, place), 1);
                    Due.due("keep", Due.keep(x, 0, ""), place > 1 ? 1 : 0);
                    Due.due("things", Due.things(x), place > 1 ? 1 : 0);
                }
            }
        }
    }

    // "The n (1 .. 8) lowest bytes of word": "false, changing nothing, for another n"
    private static void howManyBytes() {
        int[] wrong = {0, 9, -1, -8, 10, 16, 64, 256, 257, Integer.MIN_VALUE, Integer.MAX_VALUE,
            Integer.MIN_VALUE + 1, Integer.MAX_VALUE - 7};
        VaryStore x = new VaryStore();
        for (int n : wrong) {
            Due.due("n " + n, Due.typed(x, Due.wordOf("aaaaaaaa"), n), 0);
        }
        for (int n = 1; n <= 8; n++) {
            Due.type(x, "etag:");
            Due.due("n " + n, Due.typed(x, Due.wordOf("bcdefghi"), n), 1);
            Due.due("n 0", Due.typed(x, Due.wordOf("aaaaaaaa"), 0), 0);
            Due.due("n 9", Due.typed(x, Due.wordOf("aaaaaaaa"), 9), 0);
            Due.due("keep", Due.keep(x, n, "\n"), 1);
            Due.dueText("the lowest " + n, Due.etag(x, n - 1), "bcdefghi".substring(8 - n));
        }
    }

    // "the highest first": of the n, and of the calls the earliest.
    private static void highestFirst() {
        VaryStore x = new VaryStore();
        Due.due("part 1", Due.typed(x, 0x65746167L, 4), 1);
        Due.due("part 2", Due.typed(x, 0x3AL, 1), 1);
        Due.due("part 3", Due.typed(x, 0x7E20212223242526L, 8), 1);
        Due.due("part 4", Due.typed(x, 0xFFFFFFFFFFFF330AL, 2), 1);
        Due.due("keep", Due.keep(x, 0, ""), 1);
        Due.dueText("etag", Due.etag(x, 0), "~ !\"#$%&3");
    }

    private static void read(String text, int fault) {
        VaryStore x = new VaryStore();
        int bad = fault == VaryStore.NONE ? 0 : Due.THROWS;
        Due.due("ask for '" + text + "'", Due.ask(x, 0, text), bad);
        Due.due("its fault", Due.fault(x), fault);
        Due.due("keep of '" + text + "'", Due.keep(x, 0, text), bad);
        Due.due("its fault", Due.fault(x), fault);
        Due.due("again of '" + text + "'", Due.again(x, 0, text), bad);
        Due.due("its fault", Due.fault(x), fault);
        Due.due("the tape is empty then", Due.ask(x, 0, ""), 0);
        Due.due("no fault then", Due.fault(x), VaryStore.NONE);
    }

    // "NAME 1 to 16 letters, digits or -"
    private static void nameOfOneToSixteen() {
        for (int n = 0; n <= 40; n++) {
            read("n".repeat(n) + ":v\n", n >= 1 && n <= 16 ? VaryStore.NONE : 0);
            read("a:b\n" + "n".repeat(n) + ":\n", n >= 1 && n <= 16 ? VaryStore.NONE : 4);
        }
        read("n".repeat(298) + ":\n", 0);
        VaryStore x = new VaryStore();
        Due.ask(x, 0, "abcdefghijklmno-: 1\n");
        Due.due("vary by a name of 16", Due.keep(x, 0, "etag: e\nvary: abcdefghijklmno-\n"), 1);
        Due.due("the same value", Due.ask(x, 0, "abcdefghijklmno-: 1\n"), 3);
        Due.due("another value", Due.ask(x, 0, "abcdefghijklmno-: 2\n"), 0);
        Due.due("a name of 15", Due.ask(x, 0, "abcdefghijklmno: 1\n"), 0);
        Due.due("another name of 16", Due.ask(x, 0, "abcdefghijklmnop: 1\n"), 0);
    }

    // "letters, digits or -": each character that can be typed, as the first, in the middle, the last.
    private static void lettersOfAName() {
        for (char letter = 32; letter <= 126; letter++) {
            if (letter != ':') {
                int fault = NAME_LETTERS.indexOf(letter) >= 0 ? VaryStore.NONE : 0;
                read(letter + ":v\n", fault);
                read("a" + letter + "b:v\n", fault);
                read("a" + letter + ":v\n", fault);
                read(letter + "b:v\n", fault);
            }
        }
    }

    // "up to the first : of the LINE; VALUE: what is behind it"
    private static void firstColon() {
        etag("etag:a:b\n", "a:b");
        etag("etag::\n", ":");
        etag("etag: :a\n", ":a");
        etag("etag:etag:a\n", "etag:a");
        etag("etag:a:\n", "a:");
        read("a_b:c:d\n", 0);
        read("::\n", 0);
        read("a:b\n:c:d\n", 4);
    }

    private static void etag(String text, String want) {
        VaryStore x = new VaryStore();
        Due.due("keep " + text, Due.keep(x, 0, text), want.isEmpty() ? 0 : 1);
        if (!want.isEmpty()) {
            Due.dueText("etag of " + text, Due.etag(x, 0), want);
        }
    }

    // "(great letters as small ones)"
    private static void greatLettersInNames() {
        etag("ETAG:a\n", "a");
        etag("eTaG:A\n", "A");
        etag("etag:a\nETAG:B\nEtag:c\n", "a,B,c");
        String[] names = {"AZ", "aZ", "Az", "az"};
        for (String in : names) {
            for (String by : names) {
                VaryStore x = new VaryStore();
                Due.ask(x, 0, in + ": 1\n");
                Due.due("keep by " + by, Due.keep(x, 0, "etag: e\nvary: " + by + "\n"), 1);
                Due.due(in + " by " + by, Due.ask(x, 0, in + ": 1\n"), 3);
                Due.due(in + " by " + by + ", another", Due.ask(x, 0, in + ": 2\n"), 0);
            }
        }
    }

    // "blanks at both ends taken away"
    private static void blanksAtBothEnds() {
        for (int before = 0; before <= 3; before++) {
            for (int behind = 0; behind <= 3; behind++) {
                String front = " ".repeat(before);
                String back = " ".repeat(behind);
                etag("etag:" + front + "e" + back + "\n", "e");
                etag("etag:" + front + "e  f" + back + "\n", "e  f");
                etag("etag:" + front + back + "\n", "");
            }
        }
        etag("etag:" + " ".repeat(293) + "e\n", "e");
        etag("etag:e" + " ".repeat(293) + "\n", "e");
        etag("etag:" + " ".repeat(294) + "\n", "");
        read(" a:b\n", 0);
        read("a :b\n", 0);
    }

    // "Each LINE has its end (10)."
    private static void linesWithoutEnd() {
        read("a:b\n", VaryStore.NONE);
        read("a:b", 0);
        read("a:", 0);
        read("a", 0);
        read(" ", 0);
        read("a:b\nc:d", 4);
        read("a:b\nc:d\n", VaryStore.NONE);
        read("a:b\n ", 4);
        read("a:\n".repeat(99) + "a:", 297);
        read("a:\n".repeat(99) + "a:\n", VaryStore.NONE);
        read("a:" + "b".repeat(298), 0);
        read("a:" + "b".repeat(297) + "\n", VaryStore.NONE);
    }

    // "an empty TEXT is good (no LINES)"
    private static void emptyText() {
        VaryStore x = Due.kept(0, "etag: e\nvary: a\n");
        Due.due("ask of an empty text", Due.ask(x, 0, ""), 3);
        Due.due("no fault", Due.fault(x), VaryStore.NONE);
        Due.due("again of an empty text", Due.again(x, 0, ""), 1);
        Due.due("no fault", Due.fault(x), VaryStore.NONE);
        Due.due("keep of an empty text", Due.keep(x, 0, ""), 0);
        Due.due("no fault", Due.fault(x), VaryStore.NONE);
        Due.due("another vary, so it stays", Due.things(x), 1);
        read("", VaryStore.NONE);
    }

    // "What is no such LINE is wrong": an empty one too.
    private static void linesThatAreNone() {
        read("\n", 0);
        read("\n\n", 0);
        read("\na:b\n", 0);
        read("a:b\n\n", 4);
        read("a:b\n\nc:d\n", 4);
        read("ab\n", 0);
        read("a\n:b\n", 0);
        read("a:b\ncd\n", 4);
        read("\n".repeat(300), 0);
        read("a:b\n c\n", 4);
    }

    // "of a LINE without : or with a bad NAME the LINE's first one; of one that has no end its first one"
    private static void placeOfTheFault() {
        for (int before = 0; before <= 290; before++) {
            String good = before == 0 ? "" : before < 3 ? null : "a:" + "b".repeat(before - 3) + "\n";
            if (good != null) {
                read(good + "xy\n", before);
                read(good + "x y:z\n", before);
                read(good + ":z\n", before);
                read(good + "xy:z", before);
                read(good + "xy", before);
                read(good + "abcd-fgh:\n", VaryStore.NONE);
            }
        }
        read("a:" + "b".repeat(296) + "\n\n", 299);
        read("a:" + "b".repeat(296) + "\na", 299);
        read("a:" + "b".repeat(295) + "\na\n", 298);
        read("a:" + "b".repeat(294) + "\na:\n", VaryStore.NONE);
    }

    // "The place of the first character that is wrong"
    private static void theFirstFaultIsTold() {
        read("x\ny\nz", 0);
        read("a:b\ny\nz", 4);
        read("a:b\ny\n\n", 4);
        read("a:b\nc:d\n:\nz", 8);
        read("a:b\nc d:\ne:f", 4);
        read("a:b\nc:d\n" + "n".repeat(17) + ":\nz\n", 8);
    }

    // "in the latest TEXT that was read: .. NONE if it was good (or none was read)"
    private static void faultOfTheLatestText() {
        VaryStore x = new VaryStore();
        Due.due("none was read", Due.fault(x), VaryStore.NONE);
        Due.type(x, "bad");
        Due.due("typed, not read", Due.fault(x), VaryStore.NONE);
        Due.due("ask", Due.ask(x, 0, "\n"), Due.THROWS);
        Due.due("read by ask", Due.fault(x), 0);
        Due.purge(x, 0);
        Due.pass(x, 1);
        Due.pass(x, 0);
        Due.thing(x, 0, 0);
        Due.things(x);
        Due.due("a refused type", Due.typed(x, 0, 1), 0);
        Due.due("other calls do not read", Due.fault(x), 0);
        Due.due("keep", Due.keep(x, 0, "a:b\nc\n"), Due.THROWS);
        Due.due("read by keep", Due.fault(x), 4);
        Due.due("told twice", Due.fault(x), 4);
        Due.due("again", Due.again(x, 0, "a:bcd\nc\n"), Due.THROWS);
        Due.due("read by again", Due.fault(x), 6);
        Due.due("again, false", Due.again(x, 0, "a:b\n"), 0);
        Due.due("good, though false", Due.fault(x), VaryStore.NONE);
        Due.due("keep", Due.keep(x, 0, "a:b\nc\n"), Due.THROWS);
        Due.due("keep, false", Due.keep(x, 0, "a:b\n"), 0);
        Due.due("good, though not kept", Due.fault(x), VaryStore.NONE);
        Due.due("ask", Due.ask(x, 0, "q\n"), Due.THROWS);
        Due.due("ask", Due.ask(x, 0, "cache-control: only-if-cached\n"), 4);
        Due.due("good, though refused", Due.fault(x), VaryStore.NONE);
    }
}
