/** Promises 1 to 3: a new object, feed, act. */
public final class FeedActTest {
    private static final Check CHECK = new Check("FeedActTest");

    public static void main(String[] args) {
        newObject();
        feedAnswersHowMany();
        feedRefuses();
        actIsNumberedAndEmptiesThePad();
        actIsStoredByteByByte();
        actAtTheEdges();
        actRefuses();
        fullLog();
        CHECK.end();
    }

    private static void newObject() {
        FindLog x = new FindLog();
        CHECK.same("NONE", FindLog.NONE, -1);
        for (int what = 0; what < 8; what++) {
            CHECK.same("new: head " + what, x.head(what), 0);
        }
        for (int thing = 0; thing < 32; thing++) {
            CHECK.same("new: find", x.find(thing, FindLog.NONE), FindLog.NONE);
            CHECK.same("new: day", x.day(thing), FindLog.NONE);
        }
        CHECK.same("new: seal", x.seal(), 0);
        CHECK.same("new: badAt", x.badAt(), FindLog.NONE);
        CHECK.same("new: flush", x.flush(), 0);
        CHECK.same("new: crash", x.crash(0), 0);
        CHECK.same("new: reopen", x.reopen(), 0);
        CHECK.same("new: badAt behind a cut", x.badAt(), FindLog.NONE);
    }

    private static void feedAnswersHowMany() {
        FindLog x = new FindLog();
        for (int i = 1; i <= 24; i++) {
            CHECK.same("feed " + i, x.feed(i == 1 ? 0 : 255), i);
            CHECK.same("head 7", x.head(7), i);
        }
    }

    private static void feedRefuses() {
        FindLog x = new FindLog();
        CHECK.refusesArgument("feed -1", () -> x.feed(-1));
        CHECK.refusesArgument("feed 256", () -> x.feed(256));
        CHECK.refusesArgument("feed least", () -> x.feed(Integer.MIN_VALUE));
        CHECK.refusesArgument("feed most", () -> x.feed(Integer.MAX_VALUE));
        CHECK.same("head 7 behind refusals", x.head(7), 0);
        Acts.feedAll(x, new int[24]);
        CHECK.refusesState("feed the 25th", () -> x.feed(0));
        CHECK.refusesArgument("feed no byte to a full pad", () -> x.feed(256));
        CHECK.same("head 7 of a full pad", x.head(7), 24);
        x.crash(0);
        CHECK.refusesState("feed behind a cut", () -> x.feed(1));
        CHECK.refusesState("feed no byte behind a cut", () -> x.feed(-1));
        CHECK.same("the pad behind a cut", x.head(7), 24);
        x.reopen();
        CHECK.same("the pad, opened again", x.head(7), 0);
        CHECK.same("feed, opened again", x.feed(3), 1);
    }

    private static void actIsNumberedAndEmptiesThePad() {
        FindLog x = new FindLog();
        Acts.feedAll(x, 1, 2, 3);
        CHECK.same("act", x.act(7, 12), 0);
        CHECK.same("pad", x.head(7), 0);
        CHECK.same("act", x.act(7, 13), 1);
        CHECK.same("next", x.head(0), 2);
        CHECK.same("acknowledged", x.head(1), 0);
        CHECK.same("the latest is empty", x.find(7, FindLog.NONE), 0);
        CHECK.same("the latest day", x.day(7), 13);
        CHECK.same("another thing", x.day(3), FindLog.NONE);
    }

    private static void actIsStoredByteByByte() {
        FindLog x = new FindLog();
        int[] first = Acts.stored(31, 36500, 0, 255, 128, 7);
        int[] second = Acts.stored(2, 258);
        Acts.feedAll(x, 0, 255, 128, 7);
        x.act(31, 36500);
        x.act(2, 258);
        CHECK.same("bytes", x.head(3), first.length + second.length);
        for (int i = 0; i < first.length; i++) {
            CHECK.same("byte " + i + " of the first", x.stored(i), first[i]);
        }
        for (int i = 0; i < second.length; i++) {
            CHECK.same("byte " + i + " of the second", x.stored(first.length + i), second[i]);
        }
    }

    private static void actAtTheEdges() {
        FindLog x = new FindLog();
        CHECK.same("thing 0, day 0", x.act(0, 0), 0);
        CHECK.same("its day", x.day(0), 0);
        int[] full = new int[24];
        for (int i = 0; i < 24; i++) {
            full[i] = 255 - i;
        }
        Acts.feedAll(x, full);
        CHECK.same("thing 31, the last day", x.act(31, 36500), 1);
        CHECK.same("its day", x.day(31), 36500);
        CHECK.same("its count", x.find(31, FindLog.NONE), 24);
        CHECK.same("bytes", x.head(3), 14 + 38);
        for (int i = 0; i < 24; i++) {
            CHECK.same("byte " + i, x.find(31, i), 255 - i);
        }
    }

    private static void actRefuses() {
        FindLog x = new FindLog();
        x.feed(9);
        CHECK.refusesIndex("thing -1", () -> x.act(-1, 0));
        CHECK.refusesIndex("thing 32", () -> x.act(32, 0));
        CHECK.refusesIndex("thing 32, no day", () -> x.act(32, -1));
        CHECK.refusesIndex("the least thing", () -> x.act(Integer.MIN_VALUE, 0));
        CHECK.refusesArgument("day -1", () -> x.act(0, -1));
        CHECK.refusesArgument("day 36501", () -> x.act(31, 36501));
        CHECK.refusesArgument("the least day", () -> x.act(31, Integer.MIN_VALUE));
        CHECK.same("nothing has changed: next", x.head(0), 0);
        CHECK.same("nothing has changed: bytes", x.head(3), 0);
        CHECK.same("nothing has changed: pad", x.head(7), 1);
        x.crash(0);
        CHECK.refusesState("behind a cut", () -> x.act(0, 0));
        CHECK.refusesState("no thing, behind a cut", () -> x.act(-1, 0));
        CHECK.refusesState("no day, behind a cut", () -> x.act(0, -1));
    }

    private static void fullLog() {
        FindLog x = new FindLog();
        for (int i = 0; i < 63; i++) {
            CHECK.same("act " + i, x.act(i % 32, i), i);
        }
        Acts.feedAll(x, new int[24]);
        CHECK.same("act 63", x.act(31, 63), 63);
        x.feed(1);
        CHECK.refusesState("act 64", () -> x.act(0, 0));
        CHECK.refusesIndex("no thing, full log", () -> x.act(32, 0));
        CHECK.refusesArgument("no day, full log", () -> x.act(0, -1));
        CHECK.same("the pad stays", x.head(7), 1);
        CHECK.same("next stays", x.head(0), 64);
        for (int i = 0; i < 4; i++) {
            x.part();
        }
        CHECK.refusesState("act 64 behind the parts", () -> x.act(0, 0));
        CHECK.same("cut", x.cut(), 64);
        CHECK.same("the other head's first holds begin", x.head(2), 0);
        CHECK.refusesState("act 64 as begin is 0", () -> x.act(0, 0));
        x.part();
        CHECK.same("begin", x.head(2), 64);
        CHECK.same("bytes", x.head(3), 0);
        CHECK.same("act 64 then", x.act(0, 0), 64);
        CHECK.same("with the pad as it was", x.find(0, 0), 1);
        for (int i = 65; i < 128; i++) {
            Acts.feedAll(x, new int[24]);
            x.act(1, 1);
        }
        CHECK.refusesState("act 128", () -> x.act(0, 0));
        CHECK.same("bytes of a full log", x.head(3), 15 + 63 * 38);
    }
}
