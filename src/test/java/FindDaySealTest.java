/** Promises 7 to 9: find, day, seal. */
public final class FindDaySealTest {
    private static final Check CHECK = new Check("FindDaySealTest");

    public static void main(String[] args) {
        findAnswersBytes();
        aShorterActReplacesALongerOne();
        findRefuses();
        dayAnswers();
        sealGoesOn();
        refusalsBehindACut();
        CHECK.end();
    }

    private static void findAnswersBytes() {
        FindLog x = new FindLog();
        Acts.feedAll(x, 3, 0, 255);
        CHECK.same("the pad is no act", x.find(6, FindLog.NONE), FindLog.NONE);
        x.act(6, 1);
        CHECK.same("count", x.find(6, FindLog.NONE), 3);
        CHECK.same("byte 0", x.find(6, 0), 3);
        CHECK.same("byte 1", x.find(6, 1), 0);
        CHECK.same("byte 2", x.find(6, 2), 255);
    }

    private static void aShorterActReplacesALongerOne() {
        FindLog x = new FindLog();
        Acts.feedAll(x, 1, 2, 3, 4);
        x.act(9, 1);
        x.feed(8);
        x.act(9, 0);
        CHECK.same("count", x.find(9, FindLog.NONE), 1);
        CHECK.same("byte 0", x.find(9, 0), 8);
        CHECK.refusesIndex("byte 1 is gone", () -> x.find(9, 1));
        CHECK.same("an earlier day is the latest act's", x.day(9), 0);
    }

    private static void findRefuses() {
        FindLog x = new FindLog();
        CHECK.refusesIndex("thing -1", () -> x.find(-1, FindLog.NONE));
        CHECK.refusesIndex("thing 32", () -> x.find(32, FindLog.NONE));
        CHECK.refusesIndex("byte 0 without an act", () -> x.find(0, 0));
        x.act(0, 0);
        CHECK.refusesIndex("byte 0 of an empty act", () -> x.find(0, 0));
        Acts.feedAll(x, new int[24]);
        x.act(31, 0);
        CHECK.same("byte 23", x.find(31, 23), 0);
        CHECK.refusesIndex("byte 24", () -> x.find(31, 24));
        CHECK.refusesIndex("byte -2", () -> x.find(31, -2));
        CHECK.refusesIndex("the least byte", () -> x.find(31, Integer.MIN_VALUE));
        CHECK.refusesIndex("the greatest byte", () -> x.find(31, Integer.MAX_VALUE));
    }

    private static void dayAnswers() {
        FindLog x = new FindLog();
        CHECK.same("none", x.day(31), FindLog.NONE);
        x.act(31, 36500);
        CHECK.same("the last day", x.day(31), 36500);
        CHECK.same("another thing's", x.day(30), FindLog.NONE);
        CHECK.refusesIndex("thing 32", () -> x.day(32));
        CHECK.refusesIndex("thing -1", () -> x.day(-1));
    }

    private static void sealGoesOn() {
        FindLog x = new FindLog();
        int[] first = Acts.stored(1, 2, 3);
        int[] second = Acts.stored(30, 36500);
        CHECK.same("over none", x.seal(), 0);
        x.feed(3);
        CHECK.same("the pad does not count", x.seal(), 0);
        x.act(1, 2);
        CHECK.same("over one that is not acknowledged", x.seal(), Acts.seal(0, first));
        x.act(30, 36500);
        CHECK.same("over two", x.seal(), Acts.seal(0, first, second));
        x.flush();
        x.part();
        CHECK.same("heads do not change it", x.seal(), Acts.seal(0, first, second));
        x.act(0, 0);
        x.crash(0);
        x.reopen();
        CHECK.same("without what is gone", x.seal(), Acts.seal(0, first, second));
    }

    private static void refusalsBehindACut() {
        FindLog x = new FindLog();
        x.act(0, 0);
        x.crash(0);
        CHECK.refusesState("find", () -> x.find(0, FindLog.NONE));
        CHECK.refusesState("find of no thing", () -> x.find(32, 0));
        CHECK.refusesState("day", () -> x.day(0));
        CHECK.refusesState("day of no thing", () -> x.day(-1));
        CHECK.refusesState("seal", x::seal);
        x.reopen();
        CHECK.same("find, opened again", x.find(0, FindLog.NONE), FindLog.NONE);
        CHECK.same("seal, opened again", x.seal(), 0);
    }
}
