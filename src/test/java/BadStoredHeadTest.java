/** Promises 14 to 16 (badAt, stored, head): one test for each sentence. */
public final class BadStoredHeadTest {
    private static final Check CHECK = new Check("BadStoredHeadTest");

    public static void main(String[] args) {
        badAtIsTheNumberOfTheBadAct();
        badAtCountsFromFirst();
        badAtIsNotLifted();
        badAtIsOfTheLastOpening();
        badAtIsNone();
        storedAnswersBytes();
        storedOfActsThatAreNotAcknowledged();
        storedBehindACut();
        storedRefusesNoByte();
        headAnswers();
        headRefusesNoneOfThese();
        headBehindACut();
        CHECK.end();
    }

    // Promise 14: "The number of the bad act"
    private static void badAtIsTheNumberOfTheBadAct() {
        for (int bad = 0; bad < 3; bad++) {
            FindLog x = new FindLog();
            x.act(0, 0);
            x.act(1, 0);
            x.act(2, 0);
            x.crash(42);
            x.poke(14 * bad + 5, 1);
            CHECK.same("reopen", x.reopen(), bad);
            CHECK.same("badAt", x.badAt(), bad);
        }
    }

    // Promise 14: "The number": of all acts, not of those that were read
    private static void badAtCountsFromFirst() {
        FindLog x = new FindLog();
        for (int i = 0; i < 5; i++) {
            x.act(i < 3 ? 0 : 1, i);
        }
        x.part();
        x.cut();
        x.crash(0);
        x.poke(4 * 14, 4);
        CHECK.same("one is read behind first", x.reopen(), 1);
        CHECK.same("badAt", x.badAt(), 4);
    }

    // Promise 14: the bad act's own number, even if the next one is the greatest up to
    private static void badAtIsNotLifted() {
        FindLog x = new FindLog();
        x.act(3, 0);
        x.act(3, 1);
        x.act(3, 2);
        x.part();
        x.crash(0);
        x.poke(14, 64);
        CHECK.same("reopen", x.reopen(), 1);
        CHECK.same("badAt", x.badAt(), 1);
        CHECK.same("next is the greatest up to", x.head(0), 3);
    }

    // Promise 14: "when it was opened the last time"
    private static void badAtIsOfTheLastOpening() {
        FindLog x = new FindLog();
        x.act(0, 0);
        x.act(0, 1);
        x.crash(20);
        CHECK.same("not opened yet", x.badAt(), FindLog.NONE);
        x.reopen();
        CHECK.same("bad", x.badAt(), 1);
        x.act(0, 1);
        x.part();
        CHECK.same("acts and heads do not change it", x.badAt(), 1);
        x.crash(0);
        CHECK.same("nor does the next cut", x.badAt(), 1);
        CHECK.same("reopen", x.reopen(), 1);
        CHECK.same("opened well", x.badAt(), FindLog.NONE);
    }

    // Promise 14: "NONE."
    private static void badAtIsNone() {
        FindLog x = new FindLog();
        CHECK.same("never opened", x.badAt(), FindLog.NONE);
        x.crash(0);
        CHECK.same("behind a cut", x.badAt(), FindLog.NONE);
        x.reopen();
        CHECK.same("opened empty", x.badAt(), FindLog.NONE);
    }

    // Promise 15: "A byte of the log as it is stored"
    private static void storedAnswersBytes() {
        FindLog x = new FindLog();
        Acts.put(x, 17, 300, 200);
        x.flush();
        int[] act = Acts.stored(17, 300, 200);
        for (int i = 0; i < 15; i++) {
            CHECK.same("byte " + i, x.stored(i), act[i]);
        }
    }

    // Promise 15: "(acts that are not acknowledged, too)"
    private static void storedOfActsThatAreNotAcknowledged() {
        FindLog x = new FindLog();
        x.act(17, 300);
        CHECK.same("the first byte", x.stored(0), 17);
        x.flush();
        Acts.put(x, 18, 1, 5);
        CHECK.same("behind the acknowledged ones", x.stored(14), 18);
        CHECK.same("the last byte", x.stored(28), Acts.stored(18, 1, 5)[14]);
    }

    // "EXCEPTIONS: All but head(), stored(), .."
    private static void storedBehindACut() {
        FindLog x = new FindLog();
        Acts.put(x, 17, 300, 200);
        x.crash(9);
        for (int i = 0; i < 9; i++) {
            CHECK.same("byte " + i, x.stored(i), Acts.stored(17, 300, 200)[i]);
        }
        CHECK.refusesIndex("behind what was kept", () -> x.stored(9));
        x.reopen();
        CHECK.refusesIndex("behind a bad act", () -> x.stored(0));
    }

    // Promise 15: "IndexOutOfBoundsException."
    private static void storedRefusesNoByte() {
        FindLog x = new FindLog();
        CHECK.refusesIndex("an empty log", () -> x.stored(0));
        x.feed(200);
        CHECK.refusesIndex("the pad is not stored", () -> x.stored(0));
        x.act(17, 300);
        for (int no : new int[] {-1, 15, 16, Integer.MIN_VALUE, Integer.MAX_VALUE}) {
            CHECK.refusesIndex("at " + no, () -> x.stored(no));
        }
        x.crash(15);
        CHECK.refusesIndex("behind the end, behind a cut", () -> x.stored(15));
        CHECK.refusesIndex("-1, behind a cut", () -> x.stored(-1));
    }

    /** No two of the eight numbers are the same. */
    private static FindLog withAllApart() {
        FindLog x = new FindLog();
        x.part();
        for (int thing : new int[] {1, 1, 2, 2}) {
            x.act(thing, 100);
        }
        x.part();
        x.cut();
        x.part();
        x.cut();
        for (int i = 0; i < 5; i++) {
            x.act(3, i);
            if (i == 2) {
                x.flush();
            }
        }
        Acts.feedAll(x, new int[6]);
        return x;
    }

    // Promise 16: "0 the next act's number, 1 how many acts are acknowledged, .. 7 bytes of the pad"
    private static void headAnswers() {
        CHECK.heads("apart", withAllApart(), 9, 7, 2, 98, 5, 4, 3, 6);
    }

    // Promise 16: "IndexOutOfBoundsException: none of these."
    private static void headRefusesNoneOfThese() {
        FindLog x = new FindLog();
        for (int no : new int[] {-1, 8, 9, Integer.MIN_VALUE, Integer.MAX_VALUE}) {
            CHECK.refusesIndex("head " + no, () -> x.head(no));
        }
        x.crash(0);
        CHECK.refusesIndex("8 behind a cut", () -> x.head(8));
        CHECK.refusesIndex("-1 behind a cut", () -> x.head(-1));
    }

    // Promise 16: "(Behind a cut, till it is opened: all but 3 as they were ahead of it.)"
    private static void headBehindACut() {
        FindLog x = withAllApart();
        x.crash(5);
        CHECK.heads("behind a cut", x, 9, 7, 2, 75, 5, 4, 3, 6);
        x.tear();
        x.poke(0, 9);
        CHECK.heads("behind tear and poke", x, 9, 7, 2, 75, 5, 4, 3, 6);
        x.reopen();
        CHECK.heads("opened again", x, 4, 4, 4, 0, 5, 4, 3, 0);
    }
}
