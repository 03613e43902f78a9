/** Promises 10 to 12: crash, tear, poke. */
public final class CrashTearPokeTest {
    private static final Check CHECK = new Check("CrashTearPokeTest");

    public static void main(String[] args) {
        crashKeepsSomeBytes();
        crashRefuses();
        tearTakesTheGreaterGeneration();
        tearNeedsBothHeads();
        aTornHeadIsReplaced();
        pokeChangesAByte();
        pokeRefuses();
        CHECK.end();
    }

    private static FindLog withTwoAndOne() {
        FindLog x = new FindLog();
        x.act(0, 1);
        x.act(1, 2);
        x.flush();
        x.feed(5);
        x.act(2, 3);
        return x;
    }

    private static void crashKeepsSomeBytes() {
        for (int kept = 0; kept <= 15; kept++) {
            FindLog x = withTwoAndOne();
            CHECK.same("crash " + kept, x.crash(kept), 28 + kept);
            CHECK.same("head 3", x.head(3), 28 + kept);
            CHECK.same("reopen", x.reopen(), kept == 15 ? 3 : 2);
            CHECK.same("badAt", x.badAt(), kept == 0 || kept == 15 ? FindLog.NONE : 2);
            CHECK.same("next", x.head(0), kept == 15 ? 3 : 2);
            CHECK.same("the third act", x.day(2), kept == 15 ? 3 : FindLog.NONE);
            CHECK.same("bytes", x.head(3), kept == 0 ? 28 : kept == 15 ? 43 : 0);
            CHECK.same("generation", x.head(4), kept == 0 || kept == 15 ? 0 : 1);
            CHECK.same("the second act", x.day(1), 2);
        }
    }

    private static void crashRefuses() {
        FindLog x = withTwoAndOne();
        CHECK.refusesArgument("16 of 15", () -> x.crash(16));
        CHECK.refusesArgument("-1", () -> x.crash(-1));
        CHECK.refusesArgument("the least", () -> x.crash(Integer.MIN_VALUE));
        CHECK.refusesArgument("the greatest", () -> x.crash(Integer.MAX_VALUE));
        CHECK.same("no cut yet", x.day(2), 3);
        x.crash(0);
        CHECK.refusesState("a second one", () -> x.crash(0));
        CHECK.refusesState("a second one, ahead of the argument", () -> x.crash(-1));
    }

    private static void tearTakesTheGreaterGeneration() {
        FindLog x = new FindLog();
        CHECK.refusesState("without a cut", x::tear);
        x.act(0, 1);
        x.part();
        x.act(0, 2);
        x.part();
        x.crash(0);
        CHECK.same("tear", x.tear(), 2);
        CHECK.same("head 4 as it was", x.head(4), 2);
        CHECK.same("reopen", x.reopen(), 2);
        CHECK.same("the older one is used", x.head(4), 1);
        CHECK.same("all acts are there", x.day(0), 2);
    }

    private static void tearNeedsBothHeads() {
        FindLog x = new FindLog();
        x.crash(0);
        CHECK.same("of equal ones the one in use", x.tear(), 0);
        CHECK.refusesState("a second one", x::tear);
        x.reopen();
        CHECK.refusesState("no cut", x::tear);
        x.crash(0);
        CHECK.refusesState("the torn one stays", x::tear);
        x.reopen();
        CHECK.same("cut makes no head here", x.cut(), 0);
        x.crash(0);
        CHECK.refusesState("the torn one stays", x::tear);
        CHECK.same("reopen", x.reopen(), 0);
    }

    private static void aTornHeadIsReplaced() {
        FindLog x = new FindLog();
        x.act(0, 1);
        x.part();
        x.cut();
        CHECK.same("first", x.head(5), 1);
        x.crash(0);
        CHECK.same("tear", x.tear(), 2);
        CHECK.same("reopen reads from the older first", x.reopen(), 1);
        CHECK.same("first", x.head(5), 0);
        CHECK.same("begin", x.head(2), 0);
        CHECK.same("part", x.part(), 1);
        CHECK.same("the next generation of the used one", x.head(4), 2);
        CHECK.same("begin is the lower of both", x.head(2), 0);
        CHECK.same("bytes", x.head(3), 14);
        x.crash(0);
        CHECK.same("both are whole", x.tear(), 2);
        x.reopen();
        CHECK.same("the older one", x.head(4), 1);
        x.act(5, 6);
        x.crash(3);
        CHECK.same("reopen", x.reopen(), 1);
        CHECK.same("a bad one", x.badAt(), 1);
        CHECK.same("both are new ones", x.head(4), 2);
        x.crash(0);
        CHECK.same("and whole", x.tear(), 2);
        x.reopen();
        CHECK.same("of the same generation", x.head(4), 2);
        CHECK.same("with the same finds", x.day(0), 1);
        CHECK.same("with the same first", x.head(5), 1);
        CHECK.same("with the same seal", x.seal(), Acts.seal(0, Acts.stored(0, 1)));
    }

    private static void pokeChangesAByte() {
        FindLog x = withTwoAndOne();
        x.crash(15);
        CHECK.same("poke", x.poke(18, 255), 2);
        CHECK.same("stored", x.stored(18), 253);
        CHECK.same("poke back", x.poke(18, 255), 253);
        CHECK.same("stored", x.stored(18), 2);
        CHECK.same("the last byte", x.poke(42, 1), Acts.stored(2, 3, 5)[14]);
        CHECK.same("reopen", x.reopen(), 2);
        CHECK.same("badAt", x.badAt(), 2);
    }

    private static void pokeRefuses() {
        FindLog x = withTwoAndOne();
        CHECK.refusesState("no cut", () -> x.poke(0, 1));
        CHECK.refusesState("no cut, ahead of the index", () -> x.poke(-1, 0));
        x.crash(1);
        CHECK.refusesIndex("at -1", () -> x.poke(-1, 1));
        CHECK.refusesIndex("at the end", () -> x.poke(29, 1));
        CHECK.refusesIndex("at the end, no mask", () -> x.poke(29, 0));
        CHECK.refusesArgument("mask 0", () -> x.poke(28, 0));
        CHECK.refusesArgument("mask 256", () -> x.poke(0, 256));
        CHECK.refusesArgument("mask -1", () -> x.poke(0, -1));
        CHECK.same("the last byte", x.poke(28, 128), 2);
        x.poke(28, 128);
        CHECK.same("reopen", x.reopen(), 2);
        CHECK.refusesState("opened again", () -> x.poke(0, 1));
    }
}
