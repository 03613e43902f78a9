/** Promises 4 to 6 (flush, part, cut): one test for each sentence. */
public final class FlushPartCutTest {
    private static final Check CHECK = new Check("FlushPartCutTest");

    public static void main(String[] args) {
        flushAnswersHowManyWereNot();
        flushOfAFullLog();
        flushRefusesBehindACut();
        partAcknowledges();
        partIsOfTheNextGeneration();
        partTakesASnapshotUpToTheNextNumber();
        partTakesASnapshotOfItsPartAlone();
        partLeavesAllElseAsItWas();
        partOfNothing();
        turnsGoRound();
        aCutDoesNotChangeTheTurn();
        partRefusesBehindACut();
        cutAcknowledges();
        cutGoesToTheLeastNumber();
        cutGoesOnFromTheFormerFirst();
        cutTwiceGoesNoFarther();
        cutGoesOnFromTheFirstOfTheHeadInUse();
        cutGoesToTheNextActs();
        cutKeepsTheSealUpToFirst();
        cutLeavesAllElseAsItWas();
        cutWithoutGain();
        cutRefusesBehindACut();
        CHECK.end();
    }

    // Promise 4: "All acts are acknowledged: how many were not."
    private static void flushAnswersHowManyWereNot() {
        FindLog x = new FindLog();
        CHECK.same("of none", x.flush(), 0);
        x.act(1, 1);
        x.act(2, 2);
        CHECK.same("of two", x.flush(), 2);
        CHECK.same("acknowledged", x.head(1), 2);
        CHECK.same("of none that were not", x.flush(), 0);
        x.act(2, 3);
        CHECK.same("of one more", x.flush(), 1);
        CHECK.same("no new head", x.head(4), 0);
        CHECK.same("a cut keeps all", x.crash(0), 42);
    }

    // Promise 4, with as many as there can be
    private static void flushOfAFullLog() {
        FindLog x = new FindLog();
        for (int i = 0; i < 64; i++) {
            x.act(0, i);
        }
        CHECK.same("of 64", x.flush(), 64);
        CHECK.same("acknowledged", x.head(1), 64);
        CHECK.same("a cut keeps all", x.crash(0), 64 * 14);
    }

    private static FindLog behindACut() {
        FindLog x = new FindLog();
        x.act(0, 0);
        x.crash(14);
        return x;
    }

    // Promise 4: "IllegalStateException."
    private static void flushRefusesBehindACut() {
        FindLog x = behindACut();
        CHECK.refusesState("flush", x::flush);
        CHECK.same("acknowledged stays", x.head(1), 0);
        x.reopen();
        CHECK.same("opened again", x.flush(), 0);
    }

    // Promise 5: "All acts are acknowledged"
    private static void partAcknowledges() {
        FindLog x = new FindLog();
        x.act(2, 40);
        x.act(3, 41);
        x.part();
        CHECK.same("acknowledged", x.head(1), 2);
        CHECK.same("nothing to flush", x.flush(), 0);
        CHECK.same("a cut keeps all", x.crash(0), 28);
    }

    // Promise 5: "a new head of the next generation"
    private static void partIsOfTheNextGeneration() {
        FindLog x = new FindLog();
        for (int i = 1; i <= 6; i++) {
            x.part();
            CHECK.same("generation", x.head(4), i);
        }
        x.crash(0);
        CHECK.same("tear", x.tear(), 6);
        x.reopen();
        x.part();
        CHECK.same("next to that of the head in use", x.head(4), 6);
    }

    // Promise 5: "a new snapshot of the part whose turn it is (up to the next act's number)"
    private static void partTakesASnapshotUpToTheNextNumber() {
        FindLog x = new FindLog();
        Acts.put(x, 4, 40, 4);
        x.act(8, 50);
        x.part();
        x.crash(0);
        x.poke(0, 255);
        CHECK.same("act 0 is bad", x.reopen(), 0);
        CHECK.same("up to is 2", x.head(0), 2);
        CHECK.same("the snapshot has thing 4", x.day(4), 40);
        CHECK.same("and its byte", x.find(4, 0), 4);
        CHECK.same("and thing 8", x.day(8), 50);
    }

    // Promise 5: "of the part whose turn it is": of all its things, and of no other
    private static void partTakesASnapshotOfItsPartAlone() {
        for (int parts = 0; parts <= 4; parts++) {
            FindLog x = new FindLog();
            for (int thing = 0; thing < 32; thing++) {
                Acts.put(x, thing, 100 + thing, thing);
            }
            for (int i = 0; i < parts; i++) {
                x.part();
            }
            x.flush();
            x.crash(0);
            x.poke(0, 255);
            CHECK.same("nothing is read", x.reopen(), 0);
            for (int thing = 0; thing < 32; thing++) {
                boolean in = thing % 4 < parts;
                String what = parts + " parts, thing " + thing;
                CHECK.same(what, x.day(thing), in ? 100 + thing : FindLog.NONE);
                CHECK.same(what, x.find(thing, FindLog.NONE), in ? 1 : FindLog.NONE);
            }
        }
    }

    // Promise 5: "all else as it was: the part."
    private static void partLeavesAllElseAsItWas() {
        FindLog x = new FindLog();
        x.act(0, 1);
        x.act(1, 2);
        long seal = x.seal();
        x.feed(9);
        CHECK.same("part 0", x.part(), 0);
        CHECK.heads("part 0", x, 2, 2, 0, 28, 1, 0, 1, 1);
        CHECK.same("seal", x.seal(), seal);
        x.act(0, 3);
        CHECK.same("part 1", x.part(), 1);
        x.crash(0);
        x.poke(0, 255);
        x.reopen();
        CHECK.same("part 0 is of the former snapshot", x.day(0), 1);
        CHECK.same("part 1 is of the new one", x.day(1), 2);
        CHECK.same("the greater up to", x.head(0), 3);
    }

    // Promise 5, with no act at all
    private static void partOfNothing() {
        FindLog x = new FindLog();
        CHECK.same("part", x.part(), 0);
        CHECK.heads("part of nothing", x, 0, 0, 0, 0, 1, 0, 1, 0);
        x.crash(0);
        x.reopen();
        CHECK.same("nothing is in it", x.day(0), FindLog.NONE);
    }

    // Promise 5: "Its turn goes on: 0, 1, 2, 3, 0, .."
    private static void turnsGoRound() {
        FindLog x = new FindLog();
        for (int i = 0; i < 10; i++) {
            CHECK.same("turn", x.head(6), i % 4);
            CHECK.same("part", x.part(), i % 4);
        }
    }

    // Promise 5: "(a cut does not change it)"
    private static void aCutDoesNotChangeTheTurn() {
        for (int turn = 0; turn < 4; turn++) {
            FindLog x = new FindLog();
            for (int i = 0; i < turn + 4; i++) {
                x.part();
            }
            x.crash(0);
            x.tear();
            CHECK.same("behind a cut", x.head(6), turn);
            x.reopen();
            CHECK.same("opened again", x.head(6), turn);
            x.act(0, 0);
            x.crash(1);
            x.reopen();
            CHECK.same("behind a bad act", x.head(6), turn);
            CHECK.same("part", x.part(), turn);
        }
    }

    // Promise 5: "IllegalStateException."
    private static void partRefusesBehindACut() {
        FindLog x = behindACut();
        CHECK.refusesState("part", x::part);
        CHECK.heads("nothing has changed", x, 1, 0, 0, 14, 0, 0, 0, 0);
        x.reopen();
        CHECK.same("opened again", x.part(), 0);
    }

    // Promise 6: "All acts are acknowledged"
    private static void cutAcknowledges() {
        FindLog x = new FindLog();
        x.act(0, 1);
        x.part();
        x.act(0, 2);
        x.act(0, 3);
        CHECK.same("cut", x.cut(), 1);
        CHECK.same("acknowledged", x.head(1), 3);
        CHECK.same("a cut keeps all", x.crash(0), 42);
    }

    // Promise 6: "the least number .. of an act that is not in its part's snapshot"
    private static void cutGoesToTheLeastNumber() {
        FindLog x = new FindLog();
        x.act(0, 1);
        x.act(1, 2);
        x.act(0, 3);
        CHECK.same("no snapshot", x.cut(), 0);
        x.part();
        CHECK.same("act 1 is of part 1", x.cut(), 1);
        x.part();
        x.act(1, 4);
        x.act(0, 5);
        CHECK.same("act 3 is not below up to", x.cut(), 2);
        CHECK.same("first", x.head(5), 3);
    }

    // Promise 6: "from the former first on": how far first went on, not where it is
    private static void cutGoesOnFromTheFormerFirst() {
        FindLog x = new FindLog();
        for (int thing = 0; thing < 4; thing++) {
            x.act(thing, thing);
            x.act(thing + 4, thing);
        }
        for (int part = 0; part < 4; part++) {
            CHECK.same("part", x.part(), part);
            CHECK.same("cut", x.cut(), 2);
            CHECK.same("first", x.head(5), 2 * part + 2);
            CHECK.same("generation", x.head(4), 2 * part + 2);
        }
    }

    // Promise 6: "from the former first on": the other head's first is lower and does not count
    private static void cutTwiceGoesNoFarther() {
        FindLog x = new FindLog();
        x.act(0, 1);
        x.act(1, 2);
        x.act(0, 3);
        x.part();
        CHECK.same("cut", x.cut(), 1);
        CHECK.same("twice", x.cut(), 0);
        CHECK.heads("twice", x, 3, 3, 0, 42, 2, 1, 1, 0);
    }

    // Promise 6: "from the former first on": a torn head's first is higher and does not count
    private static void cutGoesOnFromTheFirstOfTheHeadInUse() {
        FindLog x = new FindLog();
        x.act(0, 1);
        x.act(0, 2);
        x.act(1, 3);
        x.part();
        CHECK.same("cut", x.cut(), 2);
        x.crash(0);
        x.tear();
        CHECK.same("reopen", x.reopen(), 3);
        CHECK.same("cut again", x.cut(), 2);
        CHECK.heads("cut again", x, 3, 3, 0, 42, 2, 2, 1, 0);
        x.crash(0);
        CHECK.same("reopen", x.reopen(), 1);
        int[][] acts = {Acts.stored(0, 1), Acts.stored(0, 2), Acts.stored(1, 3)};
        CHECK.same("the seal over all", x.seal(), Acts.seal(0, acts));
    }

    // Promise 6: "(the next act's, if all are)"
    private static void cutGoesToTheNextActs() {
        FindLog x = new FindLog();
        x.act(0, 1);
        x.act(4, 2);
        x.part();
        CHECK.same("all are", x.cut(), 2);
        CHECK.heads("all are", x, 2, 2, 0, 28, 2, 2, 1, 0);
        CHECK.same("the next act's number", x.act(1, 3), 2);
        x.crash(14);
        CHECK.same("is read from there on", x.reopen(), 1);
        CHECK.same("thing 1", x.day(1), 3);
    }

    // Promise 6: "the seal up to that"
    private static void cutKeepsTheSealUpToFirst() {
        FindLog x = new FindLog();
        int[][] acts = {Acts.stored(0, 1), Acts.stored(4, 2, 5), Acts.stored(1, 3), Acts.stored(0, 4)};
        x.act(0, 1);
        Acts.put(x, 4, 2, 5);
        x.act(1, 3);
        x.act(0, 4);
        x.part();
        CHECK.same("cut", x.cut(), 2);
        CHECK.same("the seal over all is the same", x.seal(), Acts.seal(0, acts));
        x.part();
        CHECK.same("what is ahead of first is dropped", x.head(3), 28);
        x.crash(0);
        CHECK.same("reopen", x.reopen(), 2);
        CHECK.same("the head's goes on", x.seal(), Acts.seal(0, acts));
        CHECK.same("cut to the end", x.cut(), 2);
        x.crash(0);
        x.reopen();
        CHECK.same("the head's alone", x.seal(), Acts.seal(0, acts));
    }

    // Promise 6: "all else as it was"
    private static void cutLeavesAllElseAsItWas() {
        FindLog x = new FindLog();
        Acts.put(x, 0, 1, 77);
        x.part();
        x.act(0, 2);
        x.feed(3);
        CHECK.same("cut", x.cut(), 1);
        CHECK.heads("cut", x, 2, 2, 0, 29, 2, 1, 1, 1);
        CHECK.same("the latest", x.day(0), 2);
        x.crash(0);
        x.poke(15, 255);
        CHECK.same("act 1 is bad", x.reopen(), 0);
        CHECK.same("up to was 1", x.head(0), 1);
        CHECK.same("the snapshot as it was", x.find(0, 0), 77);
    }

    // Promise 6: "If that is 0, there is no new head."
    private static void cutWithoutGain() {
        FindLog x = new FindLog();
        CHECK.same("of nothing", x.cut(), 0);
        CHECK.same("generation", x.head(4), 0);
        x.act(3, 3);
        CHECK.same("without a snapshot", x.cut(), 0);
        CHECK.heads("acknowledged all the same", x, 1, 1, 0, 14, 0, 0, 0, 0);
        for (int i = 0; i < 4; i++) {
            x.part();
        }
        CHECK.same("cut", x.cut(), 1);
        CHECK.same("twice", x.cut(), 0);
        CHECK.same("generation", x.head(4), 5);
        CHECK.same("begin is not that of two new heads", x.head(2), 0);
        x.crash(0);
        CHECK.same("the greater one", x.tear(), 5);
        x.reopen();
        CHECK.same("the one ahead of the cut", x.head(4), 4);
        CHECK.same("its first", x.head(5), 0);
    }

    // Promise 6: "IllegalStateException."
    private static void cutRefusesBehindACut() {
        FindLog x = behindACut();
        CHECK.refusesState("cut", x::cut);
        CHECK.heads("nothing has changed", x, 1, 0, 0, 14, 0, 0, 0, 0);
        x.reopen();
        CHECK.same("opened again", x.cut(), 0);
    }
}
