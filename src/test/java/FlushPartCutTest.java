/** Promises 4 to 6: flush, part, cut. */
public final class FlushPartCutTest {
    private static final Check CHECK = new Check("FlushPartCutTest");

    public static void main(String[] args) {
        flushAnswersHowMany();
        partTakesTurns();
        partAcknowledgesAndSnapshots();
        partSnapshotOutlivesTheLog();
        cutGoesToTheFirstActOutside();
        cutWithoutGainAcknowledges();
        beginIsTheLowerFirst();
        onlyItsOwnPartIsInASnapshot();
        refusals();
        CHECK.end();
    }

    private static void flushAnswersHowMany() {
        FindLog x = new FindLog();
        x.act(1, 1);
        x.act(2, 2);
        CHECK.same("not yet", x.head(1), 0);
        CHECK.same("flush 2", x.flush(), 2);
        CHECK.same("acknowledged", x.head(1), 2);
        CHECK.same("flush 0", x.flush(), 0);
        x.act(2, 3);
        CHECK.same("flush 1", x.flush(), 1);
        CHECK.same("no new head", x.head(4), 0);
        CHECK.same("crash keeps all", x.crash(0), 42);
    }

    private static void partTakesTurns() {
        FindLog x = new FindLog();
        for (int i = 0; i < 9; i++) {
            CHECK.same("turn", x.head(6), i % 4);
            CHECK.same("part", x.part(), i % 4);
            CHECK.same("generation", x.head(4), i + 1);
        }
        x.crash(0);
        CHECK.same("turn behind a cut", x.head(6), 1);
        x.tear();
        x.reopen();
        CHECK.same("turn, opened again", x.head(6), 1);
        CHECK.same("generation of the older head", x.head(4), 8);
        CHECK.same("part", x.part(), 1);
        CHECK.same("the next generation", x.head(4), 9);
    }

    private static void partAcknowledgesAndSnapshots() {
        FindLog x = new FindLog();
        x.feed(4);
        x.act(4, 40);
        x.part();
        CHECK.same("acknowledged", x.head(1), 1);
        CHECK.same("nothing to flush", x.flush(), 0);
        CHECK.same("first stays", x.head(5), 0);
        CHECK.same("bytes stay", x.head(3), 15);
        x.crash(0);
        x.poke(0, 255);
        CHECK.same("the act is bad", x.reopen(), 0);
        CHECK.same("badAt", x.badAt(), 0);
        CHECK.same("up to is more than the bad one's number", x.head(0), 1);
        CHECK.same("the snapshot has it", x.day(4), 40);
        CHECK.same("the snapshot has its byte", x.find(4, 0), 4);
        CHECK.same("the seal is that over none", x.seal(), 0);
    }

    private static void partSnapshotOutlivesTheLog() {
        FindLog x = new FindLog();
        x.feed(77);
        x.act(8, 5);
        x.part();
        x.cut();
        x.part();
        CHECK.same("dropped", x.head(3), 0);
        x.act(12, 6);
        x.feed(1);
        x.act(8, 9);
        x.crash(0);
        CHECK.same("read", x.reopen(), 0);
        CHECK.same("the snapshot's act", x.day(8), 5);
        CHECK.same("its byte", x.find(8, 0), 77);
        CHECK.same("what was not stored is gone", x.day(12), FindLog.NONE);
    }

    private static void cutGoesToTheFirstActOutside() {
        FindLog x = new FindLog();
        int[][] acts = {Acts.stored(0, 1), Acts.stored(4, 2, 5), Acts.stored(1, 3), Acts.stored(0, 4)};
        x.act(0, 1);
        x.feed(5);
        x.act(4, 2);
        x.act(1, 3);
        x.act(0, 4);
        long seal = x.seal();
        x.part();
        CHECK.same("cut", x.cut(), 2);
        CHECK.same("first", x.head(5), 2);
        CHECK.same("generation", x.head(4), 2);
        CHECK.same("the seal is the same over all", x.seal(), seal);
        CHECK.same("cut again", x.cut(), 0);
        CHECK.same("no new head", x.head(4), 2);
        CHECK.same("part 1", x.part(), 1);
        CHECK.same("begin", x.head(2), 2);
        CHECK.same("bytes", x.head(3), 28);
        CHECK.same("the first byte is of act 2", x.stored(0), 1);
        x.crash(0);
        CHECK.same("reopen", x.reopen(), 2);
        CHECK.same("the head's seal goes on", x.seal(), Acts.seal(0, acts));
        CHECK.same("cut to the next act's number", x.cut(), 2);
        CHECK.same("first", x.head(5), 4);
        CHECK.same("seal", x.seal(), Acts.seal(0, acts));
        CHECK.same("the latest", x.day(0), 4);
        CHECK.same("the latest", x.find(4, 0), 5);
    }

    private static void cutWithoutGainAcknowledges() {
        FindLog x = new FindLog();
        x.act(3, 3);
        CHECK.same("cut", x.cut(), 0);
        CHECK.same("acknowledged", x.head(1), 1);
        CHECK.same("generation", x.head(4), 0);
        CHECK.same("crash", x.crash(0), 14);
    }

    private static void beginIsTheLowerFirst() {
        FindLog x = new FindLog();
        for (int i = 0; i < 6; i++) {
            x.act(i < 3 ? 0 : 2, i);
        }
        x.part();
        x.cut();
        CHECK.same("first", x.head(5), 3);
        CHECK.same("begin", x.head(2), 0);
        CHECK.same("bytes", x.head(3), 84);
        x.part();
        CHECK.same("begin moves with the next head", x.head(2), 3);
        CHECK.same("bytes", x.head(3), 42);
        CHECK.same("day in the log", x.stored(4), 3);
        x.act(0, 100);
        CHECK.same("kept is counted behind the acknowledged ones", x.crash(14), 56);
        CHECK.same("reopen", x.reopen(), 4);
        CHECK.same("the act behind the snapshot", x.day(0), 100);
    }

    private static void onlyItsOwnPartIsInASnapshot() {
        FindLog x = new FindLog();
        x.act(1, 10);
        x.act(0, 11);
        CHECK.same("part 0", x.part(), 0);
        CHECK.same("act 0 is of part 1", x.cut(), 0);
        CHECK.same("part 1", x.part(), 1);
        CHECK.same("both are inside", x.cut(), 2);
        x.act(2, 12);
        CHECK.same("part 2", x.part(), 2);
        x.act(2, 13);
        CHECK.same("act 3 is behind up to", x.cut(), 1);
        CHECK.same("first", x.head(5), 3);
    }

    private static void refusals() {
        FindLog x = new FindLog();
        x.act(0, 0);
        x.crash(14);
        CHECK.refusesState("flush", x::flush);
        CHECK.refusesState("part", x::part);
        CHECK.refusesState("cut", x::cut);
        CHECK.same("acknowledged stays", x.head(1), 0);
        CHECK.same("generation stays", x.head(4), 0);
        CHECK.same("turn stays", x.head(6), 0);
        CHECK.same("reopen", x.reopen(), 1);
        CHECK.same("part", x.part(), 0);
    }
}
