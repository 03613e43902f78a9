/** Promises 14 to 16: badAt, stored, head. */
public final class BadStoredHeadTest {
    private static final Check CHECK = new Check("BadStoredHeadTest");

    public static void main(String[] args) {
        badAtIsOfTheLastOpening();
        badAtIsNotLifted();
        storedAnswersBytes();
        headAnswers();
        headBehindACut();
        headRefuses();
        CHECK.end();
    }

    private static void badAtIsOfTheLastOpening() {
        FindLog x = new FindLog();
        x.act(0, 0);
        x.act(0, 1);
        x.crash(20);
        CHECK.same("not opened yet", x.badAt(), FindLog.NONE);
        x.reopen();
        CHECK.same("bad", x.badAt(), 1);
        x.act(0, 1);
        CHECK.same("still", x.badAt(), 1);
        x.crash(14);
        CHECK.same("behind the next cut", x.badAt(), 1);
        CHECK.same("reopen", x.reopen(), 1);
        CHECK.same("opened well", x.badAt(), FindLog.NONE);
    }

    private static void badAtIsNotLifted() {
        FindLog x = new FindLog();
        x.act(3, 0);
        x.act(3, 1);
        x.act(3, 2);
        x.part();
        x.crash(0);
        x.poke(14, 64);
        CHECK.same("reopen", x.reopen(), 1);
        CHECK.same("badAt", x.badAt(), 1);
        CHECK.same("next is the greatest up to", x.head(0), 3);
        CHECK.same("act 0 was read", x.day(3), 0);
        CHECK.same("begin", x.head(2), 3);
        CHECK.same("first", x.head(5), 3);
        CHECK.same("acknowledged", x.head(1), 3);
        CHECK.same("the next act", x.act(3, 9), 3);
        x.crash(14);
        CHECK.same("reopen", x.reopen(), 1);
        CHECK.same("it is behind up to", x.day(3), 9);
    }

    private static void storedAnswersBytes() {
        FindLog x = new FindLog();
        CHECK.refusesIndex("an empty log", () -> x.stored(0));
        x.feed(200);
        CHECK.refusesIndex("the pad is not stored", () -> x.stored(0));
        x.act(17, 300);
        int[] act = Acts.stored(17, 300, 200);
        for (int i = 0; i < 15; i++) {
            CHECK.same("byte " + i, x.stored(i), act[i]);
        }
        CHECK.refusesIndex("behind the end", () -> x.stored(15));
        CHECK.refusesIndex("-1", () -> x.stored(-1));
        CHECK.refusesIndex("the least", () -> x.stored(Integer.MIN_VALUE));
        x.crash(9);
        CHECK.same("the last byte that was kept", x.stored(8), act[8]);
        CHECK.refusesIndex("behind what was kept", () -> x.stored(9));
        x.reopen();
        CHECK.refusesIndex("behind a bad act", () -> x.stored(0));
    }

    private static FindLog withAllHeadsApart() {
        FindLog x = new FindLog();
        x.act(0, 1);
        x.act(0, 2);
        x.part();
        x.cut();
        x.part();
        x.act(1, 3);
        Acts.feedAll(x, 1, 2, 3);
        return x;
    }

    private static void headAnswers() {
        FindLog x = withAllHeadsApart();
        heads("heads", x, 3, 2, 2, 14, 3, 2, 2, 3);
    }

    private static void headBehindACut() {
        FindLog x = withAllHeadsApart();
        x.crash(5);
        heads("behind a cut", x, 3, 2, 2, 5, 3, 2, 2, 3);
        x.tear();
        x.poke(0, 9);
        heads("behind tear and poke", x, 3, 2, 2, 5, 3, 2, 2, 3);
        x.reopen();
        heads("opened again", x, 2, 2, 2, 0, 3, 2, 2, 0);
    }

    private static void heads(String when, FindLog x, int... due) {
        for (int what = 0; what < due.length; what++) {
            CHECK.same(when + ": " + what, x.head(what), due[what]);
        }
    }

    private static void headRefuses() {
        FindLog x = new FindLog();
        CHECK.refusesIndex("8", () -> x.head(8));
        CHECK.refusesIndex("-1", () -> x.head(-1));
        CHECK.refusesIndex("the greatest", () -> x.head(Integer.MAX_VALUE));
        x.crash(0);
        CHECK.refusesIndex("8 behind a cut", () -> x.head(8));
        CHECK.refusesIndex("stored behind a cut", () -> x.stored(0));
    }
}
