/** Promises 7 to 9 (find, day, seal): one test for each sentence. */
public final class FindDaySealTest {
    private static final Check CHECK = new Check("FindDaySealTest");

    public static void main(String[] args) {
        findAnswersBytesOfTheLatestAct();
        findAnswersHowManyBytes();
        findWithoutAnAct();
        findRefusesNoThing();
        findRefusesNoByte();
        findRefusesBehindACut();
        dayAnswersThatOfTheLatestAct();
        dayWithoutAnAct();
        dayRefusesNoThing();
        dayRefusesBehindACut();
        sealAnswers();
        sealRefusesBehindACut();
        CHECK.end();
    }

    // Promise 7: "Byte i of a thing's latest act"
    private static void findAnswersBytesOfTheLatestAct() {
        FindLog x = new FindLog();
        Acts.put(x, 6, 1, 3, 0, 255);
        CHECK.same("byte 0", x.find(6, 0), 3);
        CHECK.same("byte 1", x.find(6, 1), 0);
        CHECK.same("the last byte", x.find(6, 2), 255);
        Acts.put(x, 6, 0, 8);
        CHECK.same("of the latest", x.find(6, 0), 8);
        Acts.put(x, 31, 0, Acts.times(24, 6));
        CHECK.same("byte 23", x.find(31, 23), 6);
        CHECK.same("another thing's are its own", x.find(6, 0), 8);
    }

    // Promise 7: "i = NONE: how many bytes it has"
    private static void findAnswersHowManyBytes() {
        FindLog x = new FindLog();
        x.act(6, 1);
        CHECK.same("none at all", x.find(6, FindLog.NONE), 0);
        Acts.put(x, 6, 1, Acts.times(24, 1));
        CHECK.same("24", x.find(6, FindLog.NONE), 24);
        Acts.put(x, 6, 1, 5);
        CHECK.same("the latest has one", x.find(6, FindLog.NONE), 1);
    }

    // Promise 7: "or NONE without an act"
    private static void findWithoutAnAct() {
        FindLog x = new FindLog();
        x.feed(1);
        for (int thing = 0; thing < 32; thing++) {
            CHECK.same("the pad is no act", x.find(thing, FindLog.NONE), FindLog.NONE);
        }
        x.act(1, 0);
        CHECK.same("another thing's", x.find(0, FindLog.NONE), FindLog.NONE);
        CHECK.same("another thing's", x.find(2, FindLog.NONE), FindLog.NONE);
        x.crash(0);
        x.reopen();
        CHECK.same("one that is gone", x.find(1, FindLog.NONE), FindLog.NONE);
    }

    // Promise 7: "IndexOutOfBoundsException: thing"
    private static void findRefusesNoThing() {
        FindLog x = new FindLog();
        Acts.put(x, 0, 0, 1);
        Acts.put(x, 31, 0, 1);
        for (int no : new int[] {-1, 32, Integer.MIN_VALUE, Integer.MAX_VALUE}) {
            CHECK.refusesIndex("count of thing " + no, () -> x.find(no, FindLog.NONE));
            CHECK.refusesIndex("byte of thing " + no, () -> x.find(no, 0));
        }
    }

    // Promise 7: "or there is no such byte"
    private static void findRefusesNoByte() {
        FindLog x = new FindLog();
        CHECK.refusesIndex("without an act", () -> x.find(0, 0));
        x.act(0, 0);
        CHECK.refusesIndex("of an empty act", () -> x.find(0, 0));
        Acts.put(x, 0, 0, Acts.times(24, 1));
        for (int no : new int[] {24, 25, -2, Integer.MIN_VALUE, Integer.MAX_VALUE}) {
            CHECK.refusesIndex("byte " + no + " of 24", () -> x.find(0, no));
        }
        Acts.put(x, 0, 0, 7);
        CHECK.refusesIndex("a byte of the former act", () -> x.find(0, 1));
    }

    // Promise 7: "IllegalStateException."
    private static void findRefusesBehindACut() {
        FindLog x = new FindLog();
        Acts.put(x, 0, 0, 4);
        x.crash(15);
        CHECK.refusesState("a byte", () -> x.find(0, 0));
        CHECK.refusesState("a count", () -> x.find(0, FindLog.NONE));
        CHECK.refusesState("no thing", () -> x.find(32, 0));
        CHECK.refusesState("no byte", () -> x.find(0, 1));
        x.reopen();
        CHECK.same("opened again", x.find(0, 0), 4);
    }

    // Promise 8: "The day of a thing's latest act"
    private static void dayAnswersThatOfTheLatestAct() {
        FindLog x = new FindLog();
        x.act(31, 36500);
        CHECK.same("the last day", x.day(31), 36500);
        x.act(31, 0);
        CHECK.same("the latest is of an earlier day", x.day(31), 0);
        x.act(0, 17);
        CHECK.same("another thing's", x.day(0), 17);
        CHECK.same("does not change it", x.day(31), 0);
    }

    // Promise 8: "NONE."
    private static void dayWithoutAnAct() {
        FindLog x = new FindLog();
        x.feed(1);
        for (int thing = 0; thing < 32; thing++) {
            CHECK.same("thing " + thing, x.day(thing), FindLog.NONE);
        }
        x.act(9, 9);
        CHECK.same("the thing ahead", x.day(8), FindLog.NONE);
        CHECK.same("the thing behind", x.day(10), FindLog.NONE);
        CHECK.same("a thing of its part", x.day(13), FindLog.NONE);
    }

    // Promise 8: "IndexOutOfBoundsException"
    private static void dayRefusesNoThing() {
        FindLog x = new FindLog();
        for (int no : new int[] {-1, 32, Integer.MIN_VALUE, Integer.MAX_VALUE}) {
            CHECK.refusesIndex("day of thing " + no, () -> x.day(no));
        }
    }

    // Promise 8: "IllegalStateException."
    private static void dayRefusesBehindACut() {
        FindLog x = new FindLog();
        x.act(0, 4);
        x.crash(14);
        CHECK.refusesState("day", () -> x.day(0));
        CHECK.refusesState("no thing", () -> x.day(-1));
        x.reopen();
        CHECK.same("opened again", x.day(0), 4);
    }

    // Promise 9: "The seal."
    private static void sealAnswers() {
        FindLog x = new FindLog();
        int[] first = Acts.stored(1, 2, 3);
        int[] second = Acts.stored(30, 36500);
        CHECK.same("over none", x.seal(), 0);
        x.feed(3);
        CHECK.same("the pad does not count", x.seal(), 0);
        x.act(1, 2);
        CHECK.same("over one that is not acknowledged", x.seal(), Acts.seal(0, first));
        x.act(30, 36500);
        CHECK.same("over two", x.seal(), Acts.seal(0, first, second));
        x.flush();
        x.part();
        CHECK.same("heads do not change it", x.seal(), Acts.seal(0, first, second));
        x.act(0, 1);
        x.crash(0);
        x.reopen();
        CHECK.same("without what is gone", x.seal(), Acts.seal(0, first, second));
    }

    // Promise 9: "IllegalStateException."
    private static void sealRefusesBehindACut() {
        FindLog x = new FindLog();
        x.act(0, 4);
        x.crash(14);
        CHECK.refusesState("seal", x::seal);
        x.reopen();
        CHECK.same("opened again", x.seal(), Acts.seal(0, Acts.stored(0, 4)));
    }
}
