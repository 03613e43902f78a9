import java.util.ArrayList;
import java.util.List;

/**
 * "Terms", EXCEPTIONS: which calls are refused when, which exception goes ahead of which, and that
 * "such a call changes nothing": each refused call is made in each state, and the object then goes
 * on as one of the same state does that was not asked.
 */
public final class RefusedCallsTest {
    private static final Check CHECK = new Check("RefusedCallsTest");
    private static final Class<? extends RuntimeException> INDEX = IndexOutOfBoundsException.class;
    private static final Class<? extends RuntimeException> ARGUMENT = IllegalArgumentException.class;
    private static final Class<? extends RuntimeException> STATE = IllegalStateException.class;

    interface Maker {
        FindLog make();
    }

    interface Asking {
        long ask(FindLog log);
    }

    record Refused(String call, Class<? extends RuntimeException> due, Asking asking) {
    }

    public static void main(String[] args) {
        inOpenStates();
        behindCuts();
        fullPadAndLog();
        tornHead();
        whatIsNotRefusedBehindACut();
        CHECK.end();
    }

    private static FindLog fresh() {
        return new FindLog();
    }

    /** Two heads with different firsts, acts that are not acknowledged, bytes on the pad. */
    private static FindLog inUse() {
        FindLog x = new FindLog();
        Acts.put(x, 0, 36500, 1, 2);
        x.act(1, 0);
        x.part();
        x.cut();
        Acts.put(x, 31, 7, 255);
        x.flush();
        Acts.put(x, 0, 8, 9);
        Acts.feedAll(x, 10, 11, 12);
        return x;
    }

    private static FindLog withFullPad() {
        FindLog x = inUse();
        Acts.feedAll(x, new int[21]);
        return x;
    }

    private static FindLog withFullLog() {
        FindLog x = inUse();
        while (x.head(0) < 64) {
            x.act(2, 5);
        }
        x.feed(6);
        return x;
    }

    private static FindLog openedWithTornHead() {
        FindLog x = behindCutWithTornHead();
        x.reopen();
        x.act(3, 4);
        return x;
    }

    private static FindLog openedWithBadAct() {
        FindLog x = inUse();
        x.crash(3);
        x.reopen();
        x.act(3, 4);
        return x;
    }

    private static FindLog freshBehindCut() {
        FindLog x = new FindLog();
        x.crash(0);
        return x;
    }

    private static FindLog behindCut() {
        FindLog x = inUse();
        x.crash(15);
        return x;
    }

    private static FindLog behindCutWithBadAct() {
        FindLog x = inUse();
        x.crash(2);
        return x;
    }

    private static FindLog behindCutWithTornHead() {
        FindLog x = behindCut();
        x.tear();
        return x;
    }

    private static List<Maker> openStates() {
        return List.of(RefusedCallsTest::fresh, RefusedCallsTest::inUse,
                RefusedCallsTest::withFullPad, RefusedCallsTest::withFullLog,
                RefusedCallsTest::openedWithTornHead, RefusedCallsTest::openedWithBadAct);
    }

    private static List<Maker> cutStates() {
        return List.of(RefusedCallsTest::freshBehindCut, RefusedCallsTest::behindCut,
                RefusedCallsTest::behindCutWithBadAct, RefusedCallsTest::behindCutWithTornHead);
    }

    // "IndexOutOfBoundsException: there is no such thing, byte, or what.", then the argument's; and
    // "poke(), tear(), reopen() throw [IllegalStateException] if there was none"
    private static void inOpenStates() {
        List<Refused> rows = new ArrayList<>(anywhere());
        rows.add(new Refused("feed -1", ARGUMENT, x -> x.feed(-1)));
        rows.add(new Refused("feed 256", ARGUMENT, x -> x.feed(256)));
        rows.add(new Refused("act of thing -1", INDEX, x -> x.act(-1, 0)));
        rows.add(new Refused("act of thing 32", INDEX, x -> x.act(32, 0)));
        rows.add(new Refused("act of thing 32, day -1", INDEX, x -> x.act(32, -1)));
        rows.add(new Refused("act on day -1", ARGUMENT, x -> x.act(0, -1)));
        rows.add(new Refused("act on day 36501", ARGUMENT, x -> x.act(0, 36501)));
        rows.add(new Refused("find of thing -1", INDEX, x -> x.find(-1, -1)));
        rows.add(new Refused("find of thing 32", INDEX, x -> x.find(32, 0)));
        rows.add(new Refused("find byte -2", INDEX, x -> x.find(0, -2)));
        rows.add(new Refused("find byte 24", INDEX, x -> x.find(0, 24)));
        rows.add(new Refused("day of thing -1", INDEX, x -> x.day(-1)));
        rows.add(new Refused("day of thing 32", INDEX, x -> x.day(32)));
        rows.add(new Refused("crash -1", ARGUMENT, x -> x.crash(-1)));
        rows.add(new Refused("crash of more than is there", ARGUMENT, x -> x.crash(x.head(3) + 1)));
        rows.add(new Refused("tear", STATE, FindLog::tear));
        rows.add(new Refused("reopen", STATE, FindLog::reopen));
        rows.add(new Refused("poke", STATE, x -> x.poke(0, 1)));
        rows.add(new Refused("poke at -1 by 0", STATE, x -> x.poke(-1, 0)));
        refuse(openStates(), rows);
    }

    // "All but .. throw IllegalStateException behind a cut (ahead of any other exception)"
    private static void behindCuts() {
        List<Refused> rows = new ArrayList<>(anywhere());
        rows.add(new Refused("feed", STATE, x -> x.feed(1)));
        rows.add(new Refused("feed 256", STATE, x -> x.feed(256)));
        rows.add(new Refused("act", STATE, x -> x.act(0, 0)));
        rows.add(new Refused("act of thing 32", STATE, x -> x.act(32, 0)));
        rows.add(new Refused("act on day -1", STATE, x -> x.act(0, -1)));
        rows.add(new Refused("flush", STATE, FindLog::flush));
        rows.add(new Refused("part", STATE, FindLog::part));
        rows.add(new Refused("cut", STATE, FindLog::cut));
        rows.add(new Refused("find", STATE, x -> x.find(0, -1)));
        rows.add(new Refused("find of thing 32", STATE, x -> x.find(32, -1)));
        rows.add(new Refused("find byte 24", STATE, x -> x.find(0, 24)));
        rows.add(new Refused("day", STATE, x -> x.day(0)));
        rows.add(new Refused("day of thing -1", STATE, x -> x.day(-1)));
        rows.add(new Refused("seal", STATE, FindLog::seal));
        rows.add(new Refused("crash", STATE, x -> x.crash(0)));
        rows.add(new Refused("crash -1", STATE, x -> x.crash(-1)));
        rows.add(new Refused("poke at -1", INDEX, x -> x.poke(-1, 1)));
        rows.add(new Refused("poke at the end by 0", INDEX, x -> x.poke(x.head(3), 0)));
        refuse(cutStates(), rows);
        refuse(List.of(RefusedCallsTest::behindCut), List.of(
                new Refused("poke by 0", ARGUMENT, x -> x.poke(0, 0)),
                new Refused("poke by 256", ARGUMENT, x -> x.poke(0, 256)),
                new Refused("poke by -1", ARGUMENT, x -> x.poke(0, -1))));
    }

    private static List<Refused> anywhere() {
        return List.of(
                new Refused("stored -1", INDEX, x -> x.stored(-1)),
                new Refused("stored at the end", INDEX, x -> x.stored(x.head(3))),
                new Refused("head -1", INDEX, x -> x.head(-1)),
                new Refused("head 8", INDEX, x -> x.head(8)));
    }

    // "IllegalStateException, as told": there are 24 on the pad, 64 in the log
    private static void fullPadAndLog() {
        refuse(List.of(RefusedCallsTest::withFullPad),
                List.of(new Refused("feed the 25th", STATE, x -> x.feed(1))));
        refuse(List.of(RefusedCallsTest::withFullLog),
                List.of(new Refused("act the 65th", STATE, x -> x.act(0, 0))));
    }

    // "IllegalStateException, as told": the other head is not whole
    private static void tornHead() {
        refuse(List.of(RefusedCallsTest::behindCutWithTornHead),
                List.of(new Refused("tear the last one", STATE, FindLog::tear)));
    }

    // "All but head(), stored(), poke(), tear(), reopen(), badAt()"
    private static void whatIsNotRefusedBehindACut() {
        FindLog x = behindCut();
        CHECK.heads("behind a cut", x, 4, 3, 0, 60, 2, 1, 1, 3);
        CHECK.same("stored", x.stored(4), 0x94);
        CHECK.same("badAt", x.badAt(), FindLog.NONE);
        CHECK.same("poke", x.poke(4, 1), 0x94);
        CHECK.same("tear", x.tear(), 2);
        CHECK.same("reopen", x.reopen(), 0);
        CHECK.same("badAt", x.badAt(), 0);
    }

    private static void refuse(List<Maker> states, List<Refused> rows) {
        for (int state = 0; state < states.size(); state++) {
            String due = goneOn(states.get(state).make());
            for (Refused row : rows) {
                FindLog x = states.get(state).make();
                String what = row.call() + " in state " + state;
                CHECK.refuses(what, row.due(), () -> row.asking().ask(x));
                String got = goneOn(x);
                if (!got.equals(due)) {
                    CHECK.tell("all behind " + what, got, due);
                }
            }
        }
    }

    /** What can be seen with and without a cut; of a long log just the ends. */
    private static String looked(FindLog x) {
        StringBuilder seen = new StringBuilder("heads");
        for (int what = 0; what < 8; what++) {
            seen.append(' ').append(x.head(what));
        }
        seen.append(" bad ").append(x.badAt()).append(" stored");
        int bytes = x.head(3);
        for (int i = 0; i < bytes; i++) {
            if (i < 30 || i >= bytes - 30) {
                seen.append(' ').append(x.stored(i));
            }
        }
        return seen.append('\n').toString();
    }

    private static String found(FindLog x) {
        StringBuilder seen = new StringBuilder("seal ").append(x.seal()).append(" finds");
        for (int thing : new int[] {0, 1, 2, 3, 4, 31}) {
            seen.append(' ').append(x.day(thing)).append(' ').append(x.find(thing, FindLog.NONE));
            seen.append(' ').append(Check.answerOf(() -> x.find(thing, 0)));
        }
        return seen.append('\n').toString();
    }

    /**
     * Looks at an object, and makes calls that bring to light what cannot be seen: what is
     * acknowledged, and both heads. Finds are looked at behind reopen() alone, as no other call
     * may be refused ahead of it.
     */
    private static String goneOn(FindLog x) {
        StringBuilder all = new StringBuilder(looked(x));
        all.append(Check.answerOf(x::reopen)).append('\n').append(looked(x)).append(found(x));
        List<Asking> calls = List.of(y -> y.feed(77), y -> y.act(0, 1), y -> y.crash(0),
                FindLog::tear, FindLog::reopen, FindLog::part, y -> y.act(5, 2), FindLog::flush,
                FindLog::cut, y -> y.crash(0), FindLog::tear, FindLog::reopen);
        for (Asking call : calls) {
            all.append(Check.answerOf(() -> call.ask(x))).append(' ');
        }
        return all.append(looked(x)).append(found(x)).toString();
    }
}
