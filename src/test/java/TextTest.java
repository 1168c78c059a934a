/** Promises 1, 2 and 6, and what the terms say of a TEXT. */
public final class TextTest {
    public static void main(String[] args) {
        newObject();
        typing();
        typingToTheEnd();
        goodTexts();
        wrongTexts();
        faultOfEachReader();
        wrongPaths();
        Due.end();
    }

    private static void newObject() {
        VaryStore x = new VaryStore();
        Due.due("new: things", Due.things(x), 0);
        Due.due("new: fault", Due.fault(x), VaryStore.NONE);
        Due.due("new: NONE", VaryStore.NONE, -1);
        Due.due("new: thing 0", Due.thing(x, 0, 0), Due.THROWS);
        Due.due("new: again", Due.again(x, 0, ""), 0);
        Due.due("new: keep for no request", Due.keep(x, 3, "etag: e\nvary: lang\n"), 1);
        Due.due("new: no line alike no request", Due.ask(x, 3, "cache-control: max-stale\n"), 2);
        Due.due("new: time is 0", Due.pass(x, 1), 1);
    }

    private static void typing() {
        VaryStore x = new VaryStore();
        Due.due("type n 0", Due.typed(x, 65, 0), 0);
        Due.due("type n 9", Due.typed(x, 0x4141414141414141L, 9), 0);
        Due.due("type n -1", Due.typed(x, 65, -1), 0);
        Due.due("type n min", Due.typed(x, 65, Integer.MIN_VALUE), 0);
        Due.due("type n max", Due.typed(x, 65, Integer.MAX_VALUE), 0);
        Due.due("type byte 31", Due.typed(x, 0x411F, 2), 0);
        Due.due("type byte 127", Due.typed(x, 0x7F41, 2), 0);
        Due.due("type byte 9", Due.typed(x, 9, 1), 0);
        Due.due("type byte 11", Due.typed(x, 11, 1), 0);
        Due.due("type byte 0", Due.typed(x, 0x41, 2), 0);
        Due.due("type byte 255", Due.typed(x, -1L, 8), 0);
        Due.due("type byte 128", Due.typed(x, 0x80, 1), 0);
        Due.due("nothing was typed", Due.ask(x, 0, ""), 0);
        Due.due("bytes above do not count", Due.typed(x, 0xFF00FF0065746167L, 4), 1);
        Due.due("byte 10, 32 and 126", Due.typed(x, 0x3A207E20200AL, 6), 1);
        Due.due("kept by what was typed", Due.keep(x, 0, ""), 1);
        Due.dueText("etag typed", Due.etag(x, 0), "~");
    }

    private static void typingToTheEnd() {
        VaryStore x = new VaryStore();
        Due.type(x, "etag:" + "e".repeat(290));
        Due.due("296 + 6", Due.typed(x, 0x656565656565L, 6), 0);
        Due.due("295 + 5", Due.typed(x, 0x650A613A0AL, 5), 1);
        Due.due("300 + 1", Due.typed(x, 10, 1), 0);
        Due.due("keep 300", Due.keep(x, 0, ""), 1);
        Due.due("etag of 291", Due.thing(x, 0, 5), 291);
        Due.due("its last letter", Due.thing(x, 0, 390), 'e');
        Due.due("behind its last letter", Due.thing(x, 0, 391), Due.THROWS);
        Due.due("the tape is empty", Due.ask(x, 0, ""), 3);
        Due.due("as many lines as can be", Due.ask(x, 0, "a:\n".repeat(100)), 3);
        Due.due("as many items as can be", Due.ask(x, 0, "a:" + "b,".repeat(148) + "b\n"), 3);
        Due.due("no end at 300", Due.ask(x, 0, "a:\n".repeat(99) + "a:b"), Due.THROWS);
        Due.due("no end at 300, fault", Due.fault(x), 297);
    }

    private static void good(String text) {
        VaryStore x = new VaryStore();
        Due.due("good text '" + text + "'", Due.ask(x, 0, text), 0);
        Due.due("good text '" + text + "', fault", Due.fault(x), VaryStore.NONE);
    }

    private static void goodTexts() {
        good("");
        good("a:\n");
        good("a::\n");
        good("a:b:c\n");
        good("-:x\n");
        good("0-9azAZ:x\n");
        good("abcdefghijklmnop:x\n");
        good("a:   \n");
        good("a:b\na:c\n");
    }

    private static void wrong(String text, int place) {
        VaryStore x = new VaryStore();
        Due.due("wrong text '" + text + "'", Due.ask(x, 0, text), Due.THROWS);
        Due.due("wrong text '" + text + "', fault", Due.fault(x), place);
    }

    private static void wrongTexts() {
        wrong("\n", 0);
        wrong(" \n", 0);
        wrong(":\n", 0);
        wrong(":a\n", 0);
        wrong("a\n", 0);
        wrong("a", 0);
        wrong("a:", 0);
        wrong("a:b", 0);
        wrong(" a:b\n", 0);
        wrong("a :b\n", 0);
        wrong("a_b:c\n", 0);
        wrong("a/b:c\n", 0);
        wrong("a@b:c\n", 0);
        wrong("a[b:c\n", 0);
        wrong("a`b:c\n", 0);
        wrong("a{b:c\n", 0);
        wrong("abcdefghijklmnopq:x\n", 0);
        wrong("a:b\n\n", 4);
        wrong("a:b\n\nc:d\n", 4);
        wrong("a:b\nc\nd:e\n", 4);
        wrong("a:b\nc:d\ne:f", 8);
        wrong("x\ny\n", 0);
        wrong("a:b\nx\ny:z", 4);
    }

    private static void faultOfEachReader() {
        VaryStore x = new VaryStore();
        Due.due("keep wrong", Due.keep(x, 0, "a:b\nx\n"), Due.THROWS);
        Due.due("keep wrong, fault", Due.fault(x), 4);
        Due.due("fault stays", Due.fault(x), 4);
        Due.due("keep good", Due.keep(x, 0, "etag:b\n"), 1);
        Due.due("keep good, fault", Due.fault(x), VaryStore.NONE);
        Due.due("again wrong", Due.again(x, 0, "a:b\nab:c\nx\n"), Due.THROWS);
        Due.due("again wrong, fault", Due.fault(x), 9);
        Due.due("the tape is empty", Due.again(x, 0, ""), 1);
        Due.due("again good, fault", Due.fault(x), VaryStore.NONE);
        Due.due("ask wrong", Due.ask(x, 0, "a:b\nq"), Due.THROWS);
        Due.type(x, "zz");
        Due.due("typing does not read", Due.fault(x), 4);
    }

    private static void wrongPaths() {
        int[] paths = {-1, 16, Integer.MIN_VALUE, Integer.MAX_VALUE};
        for (int path : paths) {
            VaryStore x = new VaryStore();
            Due.due("ask " + path, Due.ask(x, path, "a:b\n"), Due.THROWS);
            Due.due("keep " + path, Due.keep(x, path, "etag:b\n"), Due.THROWS);
            Due.due("again " + path, Due.again(x, path, "a:b\n"), Due.THROWS);
            Due.due("a good text, fault", Due.fault(x), VaryStore.NONE);
            Due.due("ask " + path + " wrong too", Due.ask(x, path, "a:b\nx\n"), Due.THROWS);
            Due.due("a wrong text, fault", Due.fault(x), 4);
            Due.due("the tape is empty", Due.ask(x, 0, ""), 0);
            Due.due("nothing is kept", Due.things(x), 0);
        }
        VaryStore x = new VaryStore();
        Due.due("keep 0", Due.keep(x, 0, "etag: b\n"), 1);
        Due.due("keep 15", Due.keep(x, 15, "etag: b\n"), 1);
        Due.due("ask 15", Due.ask(x, 15, ""), 3);
    }
}
