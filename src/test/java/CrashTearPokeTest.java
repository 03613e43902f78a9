/** Promises 10 to 12 (crash, tear, poke): one test for each sentence. */
public final class CrashTearPokeTest {
    private static final Check CHECK = new Check("CrashTearPokeTest");

    public static void main(String[] args) {
        crashAnswersHowManyBytes();
        crashCountsBehindTheAcknowledged();
        crashRefusesMoreThanThereAre();
        crashRefusesBelow0();
        crashRefusesBehindACut();
        tearTakesTheGreaterGeneration();
        tearTakesOfEqualOnesTheOneInUse();
        tearRefusesWithoutACut();
        tearRefusesIfTheOtherIsNotWhole();
        tearAgainWhenBothAreWhole();
        pokeAnswersWhatItWas();
        pokeAtEachByte();
        pokeRefusesNoByte();
        pokeRefusesNoMask();
        pokeRefusesWithoutACut();
        CHECK.end();
    }

    /** Two acts of 14 bytes that are acknowledged, one of 15 that is not. */
    private static FindLog withTwoAndOne() {
        FindLog x = new FindLog();
        x.act(0, 1);
        x.act(1, 2);
        x.flush();
        Acts.put(x, 2, 3, 5);
        return x;
    }

    // Promise 10: "A cut, of which kept bytes .. are stored: how many bytes the log has."
    private static void crashAnswersHowManyBytes() {
        for (int kept = 0; kept <= 15; kept++) {
            FindLog x = withTwoAndOne();
            CHECK.same("crash " + kept, x.crash(kept), 28 + kept);
            CHECK.heads("kept " + kept, x, 3, 2, 0, 28 + kept, 0, 0, 0, 0);
            int end = 28 + kept;
            CHECK.refusesIndex("behind them", () -> x.stored(end));
            for (int i = 0; i < kept; i++) {
                CHECK.same("byte " + i, x.stored(28 + i), Acts.stored(2, 3, 5)[i]);
            }
        }
        CHECK.same("an empty log", new FindLog().crash(0), 0);
    }

    // Promise 10: "behind the acknowledged ones"
    private static void crashCountsBehindTheAcknowledged() {
        FindLog x = new FindLog();
        x.act(0, 1);
        x.part();
        x.cut();
        x.act(1, 2);
        x.part();
        CHECK.same("act 0 is dropped", x.head(3), 14);
        x.act(0, 3);
        CHECK.refusesArgument("15 of 14", () -> x.crash(15));
        CHECK.same("act 1 and all of act 2", x.crash(14), 28);
        CHECK.same("reopen", x.reopen(), 2);
        CHECK.refusesArgument("all is acknowledged", () -> x.crash(1));
        CHECK.same("all is stored", x.crash(0), 28);
    }

    // Promise 10: "IllegalArgumentException: there are not so many"
    private static void crashRefusesMoreThanThereAre() {
        FindLog x = withTwoAndOne();
        for (int no : new int[] {16, 43, Integer.MAX_VALUE}) {
            CHECK.refusesArgument("kept " + no + " of 15", () -> x.crash(no));
        }
        CHECK.same("no cut", x.day(2), 3);
        x.flush();
        CHECK.refusesArgument("1 of 0", () -> x.crash(1));
        CHECK.refusesArgument("1 of an empty log", () -> new FindLog().crash(1));
        FindLog y = new FindLog();
        y.feed(1);
        CHECK.refusesArgument("the pad's bytes are none", () -> y.crash(1));
    }

    // Promise 10: "or kept is below 0"
    private static void crashRefusesBelow0() {
        FindLog x = withTwoAndOne();
        for (int no : new int[] {-1, -28, Integer.MIN_VALUE}) {
            CHECK.refusesArgument("kept " + no, () -> x.crash(no));
        }
        CHECK.same("no cut", x.day(2), 3);
        CHECK.same("no byte is gone", x.head(3), 43);
    }

    // Promise 10: "IllegalStateException."
    private static void crashRefusesBehindACut() {
        FindLog x = withTwoAndOne();
        x.crash(3);
        CHECK.refusesState("a second one", () -> x.crash(0));
        CHECK.refusesState("ahead of too many", () -> x.crash(99));
        CHECK.refusesState("ahead of below 0", () -> x.crash(-1));
        CHECK.same("the bytes stay", x.head(3), 31);
    }

    // Promise 11: "the whole one of the greater generation .. is not whole any more: its generation"
    private static void tearTakesTheGreaterGeneration() {
        FindLog x = new FindLog();
        x.act(0, 1);
        x.part();
        x.act(0, 2);
        x.part();
        x.crash(0);
        CHECK.same("tear", x.tear(), 2);
        CHECK.same("head 4 as it was", x.head(4), 2);
        CHECK.same("reopen", x.reopen(), 2);
        CHECK.same("the lower one is in use", x.head(4), 1);
        CHECK.same("all acts are there", x.day(0), 2);
    }

    // Promise 11: "(of equal ones the one in use)": equal ones hold the same, so that which of them
    // it is cannot be seen, but that it is just one of them
    private static void tearTakesOfEqualOnesTheOneInUse() {
        FindLog x = new FindLog();
        x.crash(0);
        CHECK.same("both are of generation 0", x.tear(), 0);
        CHECK.same("the other one is opened", x.reopen(), 0);
        CHECK.same("of generation 0", x.head(4), 0);
        x.part();
        x.act(1, 1);
        x.crash(1);
        x.reopen();
        x.crash(0);
        CHECK.same("both are of generation 2", x.tear(), 2);
        x.reopen();
        CHECK.same("the other one is in use", x.head(4), 2);
        x.part();
        x.crash(0);
        CHECK.same("the new head is in the torn one's place", x.tear(), 3);
        x.reopen();
        CHECK.same("generation 2 is left", x.head(4), 2);
    }

    // Promise 11: "IllegalStateException: there was no cut"
    private static void tearRefusesWithoutACut() {
        FindLog x = new FindLog();
        CHECK.refusesState("new", x::tear);
        x.part();
        CHECK.refusesState("with a new head", x::tear);
        x.crash(0);
        x.reopen();
        CHECK.refusesState("opened again", x::tear);
        x.crash(0);
        CHECK.same("no head was torn", x.tear(), 1);
    }

    // Promise 11: "or the other one is not whole"
    private static void tearRefusesIfTheOtherIsNotWhole() {
        FindLog x = new FindLog();
        x.act(0, 1);
        x.part();
        x.crash(0);
        CHECK.same("tear", x.tear(), 1);
        CHECK.refusesState("a second one", x::tear);
        CHECK.same("the last one is whole", x.reopen(), 1);
        CHECK.same("generation", x.head(4), 0);
        x.crash(0);
        CHECK.refusesState("behind the next cut", x::tear);
        x.reopen();
        CHECK.same("a cut() without a new head", x.cut(), 0);
        x.crash(0);
        CHECK.refusesState("mends none", x::tear);
        CHECK.same("reopen", x.reopen(), 1);
    }

    // Promise 11, when a new head, or a bad act, has made both whole again
    private static void tearAgainWhenBothAreWhole() {
        FindLog x = new FindLog();
        x.act(0, 1);
        x.part();
        x.cut();
        x.crash(0);
        CHECK.same("tear", x.tear(), 2);
        x.reopen();
        CHECK.same("part", x.part(), 1);
        CHECK.heads("the torn one's first is forgotten", x, 1, 1, 0, 14, 2, 0, 2, 0);
        x.crash(0);
        CHECK.same("both are whole by part()", x.tear(), 2);
        x.reopen();
        CHECK.same("cut", x.cut(), 1);
        x.crash(0);
        CHECK.same("both are whole by cut()", x.tear(), 2);
        x.reopen();
        x.act(5, 6);
        x.crash(3);
        CHECK.same("reopen", x.reopen(), 1);
        x.crash(0);
        CHECK.same("both are whole by a bad act", x.tear(), 2);
    }

    // Promise 12: "a byte of the log changes by a mask (exclusive or): what it was"
    private static void pokeAnswersWhatItWas() {
        FindLog x = withTwoAndOne();
        x.crash(15);
        CHECK.same("mask 255", x.poke(18, 255), 2);
        CHECK.same("stored", x.stored(18), 253);
        CHECK.same("and back", x.poke(18, 255), 253);
        CHECK.same("mask 1", x.poke(18, 1), 2);
        CHECK.same("mask 128", x.poke(18, 128), 3);
        CHECK.same("stored", x.stored(18), 131);
        x.poke(18, 129);
        CHECK.same("changed back all is whole", x.reopen(), 3);
        CHECK.same("badAt", x.badAt(), FindLog.NONE);
    }

    // Promise 12: "a byte of the log": each of them, the first and the last too
    private static void pokeAtEachByte() {
        FindLog x = withTwoAndOne();
        int[] was = new int[43];
        for (int at = 0; at < 43; at++) {
            was[at] = x.stored(at);
        }
        x.crash(15);
        for (int at = 0; at < 43; at++) {
            CHECK.same("poke " + at, x.poke(at, 170), was[at]);
        }
        for (int at = 0; at < 43; at++) {
            CHECK.same("stored " + at, x.stored(at), was[at] ^ 170);
        }
        CHECK.same("bytes", x.head(3), 43);
    }

    // Promise 12: "IndexOutOfBoundsException: there is no such byte."
    private static void pokeRefusesNoByte() {
        FindLog x = withTwoAndOne();
        x.crash(1);
        for (int no : new int[] {-1, 29, 42, Integer.MIN_VALUE, Integer.MAX_VALUE}) {
            CHECK.refusesIndex("at " + no, () -> x.poke(no, 1));
            CHECK.refusesIndex("ahead of the mask, at " + no, () -> x.poke(no, 0));
        }
        CHECK.same("the last byte", x.poke(28, 128), 2);
        FindLog y = new FindLog();
        y.crash(0);
        CHECK.refusesIndex("an empty log", () -> y.poke(0, 1));
    }

    // Promise 12: "IllegalArgumentException: the mask is not 1 .. 255."
    private static void pokeRefusesNoMask() {
        FindLog x = withTwoAndOne();
        x.crash(0);
        for (int no : new int[] {0, 256, 257, -1, -255, Integer.MIN_VALUE, Integer.MAX_VALUE}) {
            CHECK.refusesArgument("mask " + no, () -> x.poke(27, no));
        }
        CHECK.same("mask 1", x.poke(4, 1), 1);
        CHECK.same("mask 255", x.poke(4, 255), 0);
        CHECK.same("stored", x.stored(4), 255);
    }

    // Promise 12: "IllegalStateException: there was no cut (ahead of these)."
    private static void pokeRefusesWithoutACut() {
        FindLog x = withTwoAndOne();
        CHECK.refusesState("no cut", () -> x.poke(0, 1));
        CHECK.refusesState("ahead of the byte", () -> x.poke(-1, 1));
        CHECK.refusesState("ahead of the mask", () -> x.poke(0, 0));
        CHECK.refusesState("ahead of both", () -> x.poke(43, 256));
        x.crash(0);
        x.reopen();
        CHECK.refusesState("opened again", () -> x.poke(0, 1));
        CHECK.same("nothing has changed", x.stored(0), 0);
    }
}
