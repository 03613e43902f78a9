/** Promises 1 to 3 (a new object, feed, act): one test for each sentence. */
public final class FeedActTest {
    private static final Check CHECK = new Check("FeedActTest");

    public static void main(String[] args) {
        newObjectHasNoActs();
        newObjectHasAnEmptyPad();
        feedAnswersHowMany();
        feedRefusesWhatIsNoByte();
        feedRefusesMoreThan24();
        feedRefusesBehindACut();
        feedOrder();
        actAnswersItsNumber();
        actEmptiesThePad();
        actIsStoredByteByByte();
        actRefusesNoThing();
        actRefusesNoDay();
        actRefusesAFullLog();
        actOrder();
        CHECK.end();
    }

    // Promise 1: "No acts"
    private static void newObjectHasNoActs() {
        FindLog x = new FindLog();
        CHECK.same("NONE", FindLog.NONE, -1);
        CHECK.heads("new", x, 0, 0, 0, 0, 0, 0, 0, 0);
        for (int thing = 0; thing < 32; thing++) {
            CHECK.same("find", x.find(thing, FindLog.NONE), FindLog.NONE);
            CHECK.same("day", x.day(thing), FindLog.NONE);
        }
        CHECK.same("seal", x.seal(), 0);
        CHECK.same("badAt", x.badAt(), FindLog.NONE);
        CHECK.refusesIndex("stored", () -> x.stored(0));
        CHECK.same("flush", x.flush(), 0);
        CHECK.same("cut", x.cut(), 0);
        CHECK.same("crash", x.crash(0), 0);
        CHECK.same("reopen", x.reopen(), 0);
        CHECK.heads("opened again", x, 0, 0, 0, 0, 0, 0, 0, 0);
    }

    // Promise 1: "an empty pad"
    private static void newObjectHasAnEmptyPad() {
        FindLog x = new FindLog();
        CHECK.same("pad", x.head(7), 0);
        x.act(0, 0);
        CHECK.same("an act of it", x.find(0, FindLog.NONE), 0);
        CHECK.same("another object's pad", new FindLog().feed(1), 1);
    }

    // Promise 2: "A byte (0 .. 255) behind the pad: how many it has."
    private static void feedAnswersHowMany() {
        FindLog x = new FindLog();
        int[] bytes = {0, 255, 1, 127, 128, 254};
        for (int i = 0; i < 24; i++) {
            CHECK.same("feed " + i, x.feed(bytes[i % 6]), i + 1);
            CHECK.same("pad", x.head(7), i + 1);
        }
        x.act(0, 0);
        for (int i = 0; i < 24; i++) {
            CHECK.same("byte " + i, x.find(0, i), bytes[i % 6]);
        }
        CHECK.same("the first again", x.feed(3), 1);
    }

    // Promise 2: "IllegalArgumentException: it is none."
    private static void feedRefusesWhatIsNoByte() {
        FindLog x = new FindLog();
        for (int no : new int[] {-1, 256, -128, 511, Integer.MIN_VALUE, Integer.MAX_VALUE}) {
            CHECK.refusesArgument("feed " + no, () -> x.feed(no));
        }
        CHECK.same("the pad stays", x.head(7), 0);
    }

    // Promise 2: "IllegalStateException: there are 24."
    private static void feedRefusesMoreThan24() {
        FindLog x = new FindLog();
        Acts.feedAll(x, new int[23]);
        CHECK.same("the 24th", x.feed(0), 24);
        CHECK.refusesState("the 25th", () -> x.feed(0));
        CHECK.refusesState("and again", () -> x.feed(255));
        CHECK.same("24 stay", x.head(7), 24);
        x.act(0, 0);
        CHECK.same("room again", x.feed(0), 1);
    }

    // Promise 2: "IllegalStateException: behind a cut."
    private static void feedRefusesBehindACut() {
        FindLog x = new FindLog();
        x.feed(1);
        x.crash(0);
        CHECK.refusesState("behind a cut", () -> x.feed(1));
        CHECK.same("the pad as it was", x.head(7), 1);
        x.reopen();
        CHECK.same("opened again", x.feed(3), 1);
    }

    // Promise 2, the order: behind a cut, no byte, 24
    private static void feedOrder() {
        FindLog x = new FindLog();
        Acts.feedAll(x, new int[24]);
        CHECK.refusesArgument("no byte, ahead of 24", () -> x.feed(256));
        CHECK.refusesArgument("no byte, ahead of 24", () -> x.feed(-1));
        x.crash(0);
        CHECK.refusesState("a cut, ahead of no byte", () -> x.feed(-1));
        CHECK.refusesState("a cut, ahead of no byte", () -> x.feed(256));
    }

    // Promise 3: "An act of a thing on a day ..: its number."
    private static void actAnswersItsNumber() {
        FindLog x = new FindLog();
        CHECK.same("the first", Acts.put(x, 0, 0, 9), 0);
        CHECK.same("the last thing and day", x.act(31, 36500), 1);
        CHECK.same("the same thing", x.act(31, 36499), 2);
        CHECK.same("next", x.head(0), 3);
        CHECK.same("none is acknowledged", x.head(1), 0);
        CHECK.same("thing 0", x.day(0), 0);
        CHECK.same("the latest, not the latest day", x.day(31), 36499);
        CHECK.same("another thing", x.day(30), FindLog.NONE);
    }

    // Promise 3: "and the pad is empty"
    private static void actEmptiesThePad() {
        FindLog x = new FindLog();
        Acts.feedAll(x, Acts.times(24, 5));
        x.act(7, 12);
        CHECK.same("the pad", x.head(7), 0);
        CHECK.same("its bytes are the act's", x.find(7, FindLog.NONE), 24);
        x.act(7, 13);
        CHECK.same("none for the next", x.find(7, FindLog.NONE), 0);
    }

    // "Terms": how an act is stored
    private static void actIsStoredByteByByte() {
        FindLog x = new FindLog();
        int[] first = Acts.stored(31, 36500, 0, 255, 128, 7);
        int[] second = Acts.stored(2, 258);
        Acts.put(x, 31, 36500, 0, 255, 128, 7);
        x.act(2, 258);
        CHECK.same("bytes", x.head(3), first.length + second.length);
        for (int i = 0; i < first.length; i++) {
            CHECK.same("byte " + i + " of the first", x.stored(i), first[i]);
        }
        for (int i = 0; i < second.length; i++) {
            CHECK.same("byte " + i + " of the second", x.stored(first.length + i), second[i]);
        }
    }

    // Promise 3: "IndexOutOfBoundsException: thing."
    private static void actRefusesNoThing() {
        FindLog x = new FindLog();
        x.feed(9);
        for (int no : new int[] {-1, 32, Integer.MIN_VALUE, Integer.MAX_VALUE}) {
            CHECK.refusesIndex("thing " + no, () -> x.act(no, 0));
        }
        CHECK.heads("nothing has changed", x, 0, 0, 0, 0, 0, 0, 0, 1);
    }

    // Promise 3: "IllegalArgumentException: day."
    private static void actRefusesNoDay() {
        FindLog x = new FindLog();
        x.feed(9);
        for (int no : new int[] {-1, 36501, Integer.MIN_VALUE, Integer.MAX_VALUE}) {
            CHECK.refusesArgument("day " + no, () -> x.act(31, no));
        }
        CHECK.heads("nothing has changed", x, 0, 0, 0, 0, 0, 0, 0, 1);
        CHECK.same("no act", x.day(31), FindLog.NONE);
    }

    private static FindLog withFullLog() {
        FindLog x = new FindLog();
        for (int i = 0; i < 64; i++) {
            CHECK.same("act " + i, x.act(i % 32, i), i);
        }
        return x;
    }

    // Promise 3: "IllegalStateException: there are 64 in the log."
    private static void actRefusesAFullLog() {
        FindLog x = withFullLog();
        long seal = x.seal();
        x.feed(1);
        CHECK.refusesState("the 65th", () -> x.act(0, 0));
        CHECK.heads("nothing has changed", x, 64, 0, 0, 64 * 14, 0, 0, 0, 1);
        CHECK.same("nor the seal", x.seal(), seal);
        CHECK.same("nor the latest", x.day(0), 32);
        for (int i = 0; i < 4; i++) {
            x.part();
        }
        CHECK.refusesState("behind the parts", () -> x.act(0, 0));
        CHECK.same("cut", x.cut(), 64);
        CHECK.refusesState("as the other head's first is begin", () -> x.act(0, 0));
        x.part();
        CHECK.same("room, when both heads went on", x.act(0, 0), 64);
        CHECK.same("with the pad as it was", x.find(0, 0), 1);
        for (int i = 65; i < 128; i++) {
            CHECK.same("act " + i, x.act(1, 1), i);
        }
        CHECK.refusesState("full again", () -> x.act(0, 0));
    }

    // "EXCEPTIONS": behind a cut, no thing, no day, 64
    private static void actOrder() {
        FindLog x = withFullLog();
        CHECK.refusesIndex("no thing, ahead of no day and 64", () -> x.act(32, -1));
        CHECK.refusesIndex("no thing, ahead of 64", () -> x.act(-1, 0));
        CHECK.refusesArgument("no day, ahead of 64", () -> x.act(0, 36501));
        x.crash(0);
        CHECK.refusesState("behind a cut", () -> x.act(0, 0));
        CHECK.refusesState("a cut, ahead of no thing", () -> x.act(-1, 0));
        CHECK.refusesState("a cut, ahead of no day", () -> x.act(0, -1));
    }
}
