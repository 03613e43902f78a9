/** "Terms", up to cuts: one test for each sentence that has an edge; the sentence stands ahead. */
public final class TermsTest {
    private static final Check CHECK = new Check("TermsTest");

    public static void main(String[] args) {
        calls();
        things();
        partsOfThings();
        days();
        pad();
        actsHaveThePadsBytes();
        numbersGoOnFrom0();
        daysAreStoredHighestFirst();
        shortestAndLongestAct();
        sumIs0AtFirst();
        sumTakesBytes0To255AndWraps();
        logStartsAtBegin();
        acknowledgedOrNotYet();
        logHasAtMost64();
        logHasAtMost64FromBeginOn();
        snapshotWithoutAnAct();
        snapshotUpTo();
        headsAtFirst();
        newHeadTakesTheOthersPlace();
        beginIsTheLowerFirst();
        sealGoesOnAndWraps();
        sealOfAHead();
        CHECK.end();
    }

    // "What it is": "An object is used for at most 512 calls"
    private static void calls() {
        FindLog x = new FindLog();
        for (int i = 0; i < 170; i++) {
            CHECK.same("act " + i, x.act(i % 4, i), i);
            CHECK.same("part " + i, x.part(), i % 4);
            CHECK.same("cut " + i, x.cut(), 1);
        }
        CHECK.same("call 511", x.head(4), 340);
        CHECK.same("call 512", x.day(1), 169);
    }

    // "THINGS are 0 .. 31"
    private static void things() {
        FindLog x = new FindLog();
        for (int thing = 0; thing < 32; thing++) {
            CHECK.same("no act yet", x.day(thing), FindLog.NONE);
            CHECK.same("act of thing " + thing, Acts.put(x, thing, 100 + thing, thing), thing);
        }
        for (int thing = 0; thing < 32; thing++) {
            CHECK.same("day of thing " + thing, x.day(thing), 100 + thing);
            CHECK.same("byte of thing " + thing, x.find(thing, 0), thing);
        }
        for (int no : new int[] {-1, 32, 255, 256, Integer.MIN_VALUE, Integer.MAX_VALUE}) {
            CHECK.refusesIndex("act of thing " + no, () -> x.act(no, 0));
            CHECK.refusesIndex("find of thing " + no, () -> x.find(no, FindLog.NONE));
            CHECK.refusesIndex("day of thing " + no, () -> x.day(no));
        }
    }

    // "each of a PART, its number modulo 4"
    private static void partsOfThings() {
        for (int thing = 0; thing < 32; thing++) {
            for (int parts = 0; parts <= 4; parts++) {
                FindLog x = new FindLog();
                x.act(thing, 0);
                for (int i = 0; i < parts; i++) {
                    x.part();
                }
                boolean inSnapshot = thing % 4 < parts;
                CHECK.same("thing " + thing + ", parts " + parts, x.cut(), inSnapshot ? 1 : 0);
            }
        }
    }

    // "DAYS 0 .. 36500"
    private static void days() {
        FindLog x = new FindLog();
        CHECK.same("the first day", x.act(3, 0), 0);
        CHECK.same("is told", x.day(3), 0);
        CHECK.same("the last day", x.act(3, 36500), 1);
        CHECK.same("is told", x.day(3), 36500);
        for (int no : new int[] {-1, 36501, 65536, Integer.MIN_VALUE, Integer.MAX_VALUE}) {
            CHECK.refusesArgument("day " + no, () -> x.act(3, no));
        }
        CHECK.same("still the last day", x.day(3), 36500);
    }

    // "THE PAD is a row of at most 24 bytes."
    private static void pad() {
        FindLog x = new FindLog();
        CHECK.same("empty at first", x.head(7), 0);
        for (int i = 1; i <= 24; i++) {
            CHECK.same("feed " + i, x.feed(100 + i), i);
        }
        CHECK.refusesState("the 25th", () -> x.feed(125));
        CHECK.same("24 stay", x.head(7), 24);
        x.act(0, 0);
        CHECK.same("24 are in the act", x.find(0, FindLog.NONE), 24);
        for (int i = 0; i < 24; i++) {
            CHECK.same("byte " + i, x.find(0, i), 101 + i);
        }
    }

    // "AN ACT of a thing on a day has the pad's bytes"
    private static void actsHaveThePadsBytes() {
        for (int count = 0; count <= 24; count++) {
            FindLog x = new FindLog();
            Acts.put(x, 9, 8, Acts.times(count, 200 + count));
            CHECK.same("count " + count, x.find(9, FindLog.NONE), count);
            for (int i = 0; i < count; i++) {
                CHECK.same("byte " + i + " of " + count, x.find(9, i), 200 + count);
            }
            x.act(9, 9);
            CHECK.same("the next has none", x.find(9, FindLog.NONE), 0);
        }
    }

    // "acts are numbered 0, 1, .."
    private static void numbersGoOnFrom0() {
        FindLog x = new FindLog();
        for (int number = 0; number < 160; number++) {
            CHECK.same("the next number", x.head(0), number);
            CHECK.same("act", x.act(0, 0), number);
            if (number % 40 == 39) {
                dropAll(x);
            }
        }
    }

    private static void dropAll(FindLog x) {
        for (int i = 0; i < 4; i++) {
            x.part();
        }
        x.cut();
        x.part();
    }

    // "the day (4 bytes, the highest first)"
    private static void daysAreStoredHighestFirst() {
        int[][] days = {{0, 0, 0}, {255, 0, 255}, {256, 1, 0}, {36500, 142, 148}};
        for (int[] day : days) {
            FindLog x = new FindLog();
            x.act(0, day[0]);
            int[] due = {0, 0, 0, day[1], day[2], 0};
            for (int i = 0; i < due.length; i++) {
                CHECK.same("day " + day[0] + ", byte " + i, x.stored(i), due[i]);
            }
        }
    }

    // "how many bytes it has (1 byte), these, and its SUM (8 bytes, the highest first)"
    private static void shortestAndLongestAct() {
        FindLog x = new FindLog();
        x.act(31, 36500);
        CHECK.same("the shortest", x.head(3), 14);
        CHECK.same("has no bytes", x.stored(5), 0);
        Acts.put(x, 30, 1, Acts.times(24, 77));
        CHECK.same("and the longest", x.head(3), 14 + 38);
        CHECK.same("starts behind it", x.stored(14), 30);
        CHECK.same("has 24 bytes", x.stored(19), 24);
        CHECK.same("the first of these", x.stored(20), 77);
        CHECK.same("the last of these", x.stored(43), 77);
        holds(x, 0, Acts.stored(31, 36500));
        holds(x, 14, Acts.stored(30, 1, Acts.times(24, 77)));
    }

    private static void holds(FindLog x, int from, int[] due) {
        for (int i = 0; i < due.length; i++) {
            CHECK.same("stored " + (from + i), x.stored(from + i), due[i]);
        }
    }

    private static void sumIs(FindLog x, int at, long due) {
        long sum = 0;
        for (int i = 0; i < 8; i++) {
            sum = sum << 8 | x.stored(at + i);
        }
        CHECK.same("sum at " + at, sum, due);
    }

    // "a number of 64 bits that is 0 at first": six bytes of 0 leave it 0
    private static void sumIs0AtFirst() {
        FindLog x = new FindLog();
        x.act(0, 0);
        holds(x, 0, new int[14]);
        x.act(1, 0);
        sumIs(x, 20, 0x3170467091D8EC2L);
    }

    // "for each byte b of what was stored ahead .. b (0 .. 255) .. 64 bits wrap"
    private static void sumTakesBytes0To255AndWraps() {
        FindLog x = new FindLog();
        Acts.put(x, 31, 36500, Acts.times(24, 255));
        sumIs(x, 30, 0x4CCECAABEC2E51C9L);
        Acts.put(x, 5, 300, 7, 200);
        sumIs(x, 46, 0xDD29646C3BDA42E2L);
    }

    // "THE LOG is the stored acts one behind the other, from the act with the number BEGIN on."
    private static void logStartsAtBegin() {
        FindLog x = new FindLog();
        CHECK.same("empty at first", x.head(3), 0);
        x.act(0, 1);
        Acts.put(x, 1, 2, 3);
        x.part();
        x.cut();
        x.part();
        CHECK.same("begin", x.head(2), 1);
        CHECK.same("without what is ahead of it", x.head(3), 15);
        holds(x, 0, Acts.stored(1, 2, 3));
        x.act(2, 3);
        holds(x, 15, Acts.stored(2, 3));
        x.cut();
        x.part();
        x.part();
        x.cut();
        x.part();
        CHECK.same("begin is the next number", x.head(2), 3);
        CHECK.same("and the log empty", x.head(3), 0);
    }

    // "Acts are ACKNOWLEDGED by flush(), part(), cut(), or not yet."
    private static void acknowledgedOrNotYet() {
        for (int by = 0; by < 4; by++) {
            FindLog x = new FindLog();
            x.act(2, 1);
            x.act(2, 2);
            CHECK.same("not yet", x.head(1), 0);
            if (by == 0) {
                x.flush();
            } else if (by == 1) {
                x.part();
            } else if (by == 2) {
                x.cut();
            }
            CHECK.same("acknowledged by " + by, x.head(1), by == 3 ? 0 : 2);
            CHECK.same("stored by " + by, x.crash(0), by == 3 ? 0 : 28);
            CHECK.same("read by " + by, x.reopen(), by == 3 ? 0 : 2);
        }
    }

    private static FindLog withActs(int count) {
        FindLog x = new FindLog();
        for (int i = 0; i < count; i++) {
            CHECK.same("act " + i, x.act(i % 32, i), i);
        }
        return x;
    }

    // "At most 64 are in the log."
    private static void logHasAtMost64() {
        FindLog x = withActs(63);
        CHECK.same("the 64th", Acts.put(x, 0, 63, Acts.times(24, 1)), 63);
        CHECK.refusesState("the 65th", () -> x.act(0, 64));
        CHECK.same("64 are there", x.head(0), 64);
        CHECK.same("with their bytes", x.head(3), 63 * 14 + 38);
        x.flush();
        CHECK.refusesState("the 65th when all are acknowledged", () -> x.act(0, 64));
        x.crash(0);
        CHECK.same("64 are read", x.reopen(), 64);
        CHECK.same("none is bad", x.badAt(), FindLog.NONE);
        CHECK.refusesState("the 65th when it is opened again", () -> x.act(0, 64));
    }

    // "THE LOG is .. from the act with the number BEGIN on. .. At most 64 are in the log."
    private static void logHasAtMost64FromBeginOn() {
        FindLog x = withActs(64);
        x.part();
        CHECK.same("act 0 is in a snapshot", x.cut(), 1);
        CHECK.same("begin stays for the other head", x.head(2), 0);
        CHECK.refusesState("first does not count", () -> x.act(0, 64));
        x.part();
        CHECK.same("begin", x.head(2), 1);
        CHECK.same("one more", x.act(0, 64), 64);
        CHECK.refusesState("but not two", () -> x.act(0, 65));
    }

    // "the latest act (if there is one)"
    private static void snapshotWithoutAnAct() {
        FindLog x = new FindLog();
        x.part();
        Acts.put(x, 0, 5, 6);
        Acts.put(x, 8, 9);
        x.crash(29);
        CHECK.same("reopen", x.reopen(), 2);
        CHECK.same("read behind a snapshot of nothing", x.day(0), 5);
        CHECK.same("without bytes", x.find(8, FindLog.NONE), 0);
        CHECK.same("neither in it nor behind it", x.day(4), FindLog.NONE);
        CHECK.same("no count either", x.find(4, FindLog.NONE), FindLog.NONE);
    }

    // "UP TO which number acts are in it"
    private static void snapshotUpTo() {
        FindLog x = new FindLog();
        x.act(0, 1);
        x.act(0, 2);
        x.part();
        x.act(0, 3);
        CHECK.same("numbers below up to are in it", x.cut(), 2);
        CHECK.same("up to itself is not", x.head(5), 2);
    }

    // "at first both are of generation 0, with first 0, seal 0, snapshots of nothing up to 0"
    private static void headsAtFirst() {
        for (int torn = 0; torn < 2; torn++) {
            FindLog x = new FindLog();
            x.act(7, 70);
            x.crash(14);
            if (torn == 1) {
                CHECK.same("generation 0", x.tear(), 0);
            }
            CHECK.same("read from 0 on", x.reopen(), 1);
            CHECK.heads("head " + torn, x, 1, 1, 0, 14, 0, 0, 0, 0);
            CHECK.same("act 0 is in no snapshot", x.day(7), 70);
            CHECK.same("other things have none", x.day(3), FindLog.NONE);
            CHECK.same("seal from 0 on", x.seal(), Acts.seal(0, Acts.stored(7, 70)));
        }
    }

    // "A NEW HEAD takes the place of the other one, and is in use then"
    private static void newHeadTakesTheOthersPlace() {
        for (int parts = 1; parts <= 5; parts++) {
            FindLog x = new FindLog();
            for (int i = 0; i < parts; i++) {
                x.part();
            }
            CHECK.same("in use", x.head(4), parts);
            x.crash(0);
            CHECK.same("the greater one", x.tear(), parts);
            x.reopen();
            CHECK.same("the former one is still there", x.head(4), parts - 1);
        }
    }

    // "begin is then the lower of both heads' first"
    private static void beginIsTheLowerFirst() {
        FindLog x = withActs(5);
        dropFirst(x, 0, 1, 0);
        dropFirst(x, 1, 2, 1);
        dropFirst(x, 2, 3, 2);
        dropFirst(x, 3, 5, 3);
        x.flush();
        CHECK.same("no new head, no new begin", x.head(2), 3);
        x.part();
        CHECK.same("both are 5", x.head(2), 5);
    }

    private static void dropFirst(FindLog x, int part, int first, int begin) {
        CHECK.same("part", x.part(), part);
        CHECK.same("begin behind part " + part, x.head(2), begin);
        x.cut();
        CHECK.same("first behind cut " + part, x.head(5), first);
        CHECK.same("begin behind cut " + part, x.head(2), begin);
    }

    // "THE SEAL .. becomes (itself, exclusive or the act's sum, turned left by 37 bits) times .."
    private static void sealGoesOnAndWraps() {
        FindLog x = new FindLog();
        CHECK.same("over none", x.seal(), 0);
        x.act(0, 0);
        CHECK.same("over a sum of 0", x.seal(), 0);
        x.act(1, 0);
        CHECK.same("over two", x.seal(), 0x3F330F9238B28A75L);
        Acts.put(x, 31, 36500, Acts.times(24, 255));
        CHECK.same("over three, below 0", x.seal(), 0xF7289DCE07E9CFC2L);
    }

    // "The seal of a head is that over all acts ahead of its first"
    private static void sealOfAHead() {
        FindLog x = new FindLog();
        int[][] acts = {Acts.stored(0, 3, 1), Acts.stored(0, 4), Acts.stored(1, 5, 9)};
        Acts.put(x, 0, 3, 1);
        x.act(0, 4);
        Acts.put(x, 1, 5, 9);
        x.part();
        CHECK.same("first", x.cut(), 2);
        x.crash(0);
        x.poke(29, 1);
        CHECK.same("act 2 is bad", x.reopen(), 0);
        CHECK.same("the head's seal alone", x.seal(), Acts.seal(0, acts[0], acts[1]));
        Acts.put(x, 1, 5, 9);
        CHECK.same("going on from its first on", x.seal(), Acts.seal(0, acts));
    }
}
