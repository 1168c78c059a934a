/**
 * The boundaries of promises 1, 7, 8 and 10, and of the 512 calls. Above each test stands the
 * document's sentence.
 */
public final class CallsEdgesTest {
    private static final int[] NO_PATHS = {-1, 16, 17, -16, 32, 256, Integer.MIN_VALUE, Integer.MAX_VALUE};

    public static void main(String[] args) {
        nothingIsKept();
        noRequestHasNoLines();
        objectsApart();
        purgeHowMany();
        purgeOfNoPath();
        purgeMakesRoom();
        purgeLeavesTheRest();
        passFromOneOn();
        passRefused();
        topOfTheTime();
        thingsFromNoneToTwentyFour();
        fiveHundredAndTwelveCalls();
        Due.end();
    }

    // "Nothing is KEPT"; the tape is empty, the TIME is 0, no TEXT was read.
    private static void nothingIsKept() {
        Due.due("things", Due.things(new VaryStore()), 0);
        Due.due("fault", Due.fault(new VaryStore()), VaryStore.NONE);
        Due.due("the time", Due.pass(new VaryStore(), 1), 1);
        for (int path = 0; path < 16; path++) {
            Due.due("ask", Due.ask(new VaryStore(), path, ""), 0);
            Due.due("again", Due.again(new VaryStore(), path, ""), 0);
            Due.due("keep", Due.keep(new VaryStore(), path, ""), 0);
            Due.due("purge", Due.purge(new VaryStore(), path), 0);
        }
        for (int what = -1; what <= 101; what++) {
            Due.due("thing", Due.thing(new VaryStore(), 0, what), Due.THROWS);
        }
        Due.due("a whole tape has room", Due.keep(new VaryStore(), 0, "etag:" + "e".repeat(294) + "\n"), 1);
    }

    // "there has been no REQUEST: it is as if it had no LINES"
    private static void noRequestHasNoLines() {
        VaryStore x = Due.kept(0, "etag: e\nvary: a, cache-control\n");
        Due.due("made again for no request", Due.again(x, 0, ""), 1);
        Due.due("a request with that line", Due.ask(x, 0, "a:\n"), 0);
        Due.due("with another of them", Due.ask(x, 0, "cache-control: x\n"), 0);
        Due.due("a request with another line", Due.ask(x, 0, "b:\n"), 3);
        Due.due("a request without lines", Due.ask(x, 0, ""), 3);
    }

    private static void objectsApart() {
        VaryStore x = new VaryStore();
        VaryStore y = new VaryStore();
        Due.type(x, "etag: e");
        Due.due("the other's tape", Due.keep(y, 0, "\n"), Due.THROWS);
        Due.due("the other's fault", Due.fault(x), VaryStore.NONE);
        Due.due("keep", Due.keep(x, 0, "\n"), 1);
        Due.due("the other's things", Due.things(y), 0);
        Due.pass(x, 50);
        Due.due("the other's time", Due.pass(y, 1), 1);
    }

    private static VaryStore filled(int count, int paths) {
        VaryStore x = new VaryStore();
        for (int i = 0; i < count; i++) {
            Due.ask(x, 0, "a: " + i + "\n");
            Due.due("keep", Due.keep(x, i % paths, "etag: " + i + "\nvary: a\n"), 1);
        }
        return x;
    }

    // "All THINGS of a PATH go: how many": none, one, all that there may be.
    private static void purgeHowMany() {
        for (int count = 0; count <= 24; count++) {
            VaryStore x = filled(count, 1);
            Due.due("purge of another path", Due.purge(x, 1), 0);
            Due.due("things", Due.things(x), count);
            Due.due("purge of " + count, Due.purge(x, 0), count);
            Due.due("things", Due.things(x), 0);
            Due.due("purge again", Due.purge(x, 0), 0);
            Due.due("none is there", Due.thing(x, 0, 0), Due.THROWS);
        }
        VaryStore x = filled(24, 16);
        for (int path = 0; path < 16; path++) {
            Due.due("purge of " + path, Due.purge(x, path), path < 8 ? 2 : 1);
        }
        Due.due("things", Due.things(x), 0);
    }

    // "0 if there is no such PATH"
    private static void purgeOfNoPath() {
        VaryStore x = filled(24, 16);
        for (int path : NO_PATHS) {
            Due.due("purge of " + path, Due.purge(x, path), 0);
            Due.due("things", Due.things(x), 24);
        }
        VaryStore y = new VaryStore();
        for (int path : NO_PATHS) {
            Due.due("purge of " + path, Due.purge(y, path), 0);
        }
    }

    private static void purgeMakesRoom() {
        VaryStore x = filled(24, 2);
        Due.due("purge", Due.purge(x, 1), 12);
        for (int i = 0; i < 12; i++) {
            Due.ask(x, 0, "a: " + (100 + i) + "\n");
            Due.due("keep", Due.keep(x, 3, "etag: " + (100 + i) + "\nvary: a\n"), 1);
            Due.due("things", Due.things(x), 13 + i);
            Due.dueText("the first stays", Due.etag(x, 0), "0");
        }
        Due.ask(x, 0, "a: 112\n");
        Due.due("keep", Due.keep(x, 3, "etag: 112\nvary: a\n"), 1);
        Due.due("things", Due.things(x), 24);
        Due.dueText("the first went", Due.etag(x, 0), "2");
    }

    // The order of the others stays, as do the tape, the fault, the TIME and the LATEST REQUEST.
    private static void purgeLeavesTheRest() {
        VaryStore x = filled(9, 3);
        Due.ask(x, 0, "bad");
        Due.due("the time", Due.pass(x, 4), 4);
        Due.ask(x, 0, "a: 77\n");
        Due.keep(x, 0, "a: b\nc\n");
        Due.type(x, "etag: t\nvary: a\n");
        Due.due("purge", Due.purge(x, 1), 3);
        Due.due("the fault", Due.fault(x), 5);
        String[] want = {"0", "2", "3", "5", "6", "8"};
        for (int i = 0; i < want.length; i++) {
            Due.dueText("thing " + i, Due.etag(x, i), want[i]);
            Due.due("its age", Due.thing(x, i, 1), 4);
        }
        Due.due("the tape", Due.keep(x, 5, ""), 1);
        Due.dueText("its etag", Due.etag(x, 6), "t");
        Due.due("the latest request", Due.ask(x, 5, "a: 77\n"), 3);
        Due.due("the time", Due.pass(x, 1), 5);
    }

    // "n (1 .. 100000) seconds go by: the TIME."
    private static void passFromOneOn() {
        VaryStore x = new VaryStore();
        Due.due("pass 1", Due.pass(x, 1), 1);
        Due.due("pass 2", Due.pass(x, 2), 3);
        Due.due("pass 99999", Due.pass(x, 99999), 100002);
        Due.due("pass 100000", Due.pass(x, 100000), 200002);
        Due.due("pass 1", Due.pass(x, 1), 200003);
    }

    // "IllegalArgumentException: another n": the TIME and the AGES stay.
    private static void passRefused() {
        int[] wrong = {0, -1, 100001, 100002, -100000, 1000000000, 1000000001,
            Integer.MIN_VALUE, Integer.MAX_VALUE};
        VaryStore x = Due.kept(0, "etag: e\n");
        Due.due("pass 5", Due.pass(x, 5), 5);
        for (int n : wrong) {
            Due.due("pass " + n, Due.pass(x, n), Due.THROWS);
            Due.due("age", Due.thing(x, 0, 1), 5);
            Due.due("fault", Due.fault(x), VaryStore.NONE);
        }
        Due.due("pass 1", Due.pass(x, 1), 6);
    }

    // "or it would be above 1000000000": no run of 512 calls comes so far, yet the class knows it.
    private static void topOfTheTime() {
        VaryStore x = Due.kept(0, "etag: e\nage: 999999\n");
        Due.useBeyondTheLastCall(x);
        for (int i = 1; i < 10000; i++) {
            Due.due("pass", Due.pass(x, 100000), i * 100000L);
        }
        Due.due("pass to 1 below the top", Due.pass(x, 99999), 999999999);
        Due.due("pass to 1 above the top", Due.pass(x, 2), Due.THROWS);
        Due.due("pass far above the top", Due.pass(x, 100000), Due.THROWS);
        Due.due("age", Due.thing(x, 0, 1), 1000999998);
        Due.due("pass to the top", Due.pass(x, 1), 1000000000);
        Due.due("pass above the top", Due.pass(x, 1), Due.THROWS);
        Due.due("age", Due.thing(x, 0, 1), 1000999999);
        Due.due("ask", Due.ask(x, 0, "cache-control: max-stale=999999\n"), 3);
        Due.due("ask", Due.ask(x, 0, "cache-control: max-stale\n"), 2);
    }

    // "How many THINGS are KEPT."
    private static void thingsFromNoneToTwentyFour() {
        VaryStore x = new VaryStore();
        for (int i = 0; i < 30; i++) {
            Due.due("things", Due.things(x), Math.min(24, i));
            Due.due("told twice", Due.things(x), Math.min(24, i));
            Due.ask(x, 0, "a: " + i + "\n");
            Due.keep(x, 0, "etag: e\nvary: a\n");
        }
        Due.keep(x, 0, "vary: a\n");
        Due.due("one goes", Due.things(x), 23);
        Due.ask(x, 0, "a: 20\n");
        Due.again(x, 0, "");
        Due.due("made again", Due.things(x), 23);
        Due.keep(x, 0, "etag: f\nvary: a\n");
        Due.due("takes the place", Due.things(x), 23);
        Due.purge(x, 0);
        Due.due("purged", Due.things(x), 0);
    }

    // "An object is used for at most 512 calls after it has been made": the last of them still holds.
    private static void fiveHundredAndTwelveCalls() {
        VaryStore x = new VaryStore();
        int calls = 0;
        int kept = 0;
        while (calls + 5 <= 510) {
            Due.due("type", Due.typed(x, "a:" + (1000 + kept) + "\n"), 1);
            Due.due("ask", Due.ask(x, 0, ""), 0);
            Due.due("type", Due.typed(x, "etag:e\n"), 1);
            Due.due("type", Due.typed(x, "vary:a\n"), 1);
            Due.due("keep", Due.keep(x, 0, ""), 1);
            kept++;
            calls += 5;
        }
        Due.due("calls", calls, 510);
        Due.due("kept", kept, 102);
        Due.due("call 511", Due.again(x, 0, ""), 1);
        Due.due("call 512", Due.things(x), 24);
    }
}
