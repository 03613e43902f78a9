import java.util.ArrayList;
import java.util.Arrays;
import java.util.List;

/**
 * The document's terms taken word by word, apart from how the class is built: every byte ever
 * stored stays on one disk, heads are values, and seals are counted anew from the disk.
 */
final class Model {
    record Act(int thing, int day, int[] bytes, long sum, int length) {
    }

    record Head(int generation, int first, int place, long seal, Act[] finds, int[] upTo) {
    }

    private final List<Integer> pad = new ArrayList<>();
    private final List<Integer> disk = new ArrayList<>();
    private final Head[] heads = new Head[2];
    private final boolean[] torn = new boolean[2];
    private Act[] latest = new Act[32];
    private int use;
    private int begin;
    private int beginPlace;
    private int next;
    private int acknowledged;
    private int acknowledgedPlace;
    private int turn;
    private int bad = -1;
    private boolean cut;

    Model() {
        heads[0] = new Head(0, 0, 0, 0, new Act[32], new int[4]);
        heads[1] = heads[0];
    }

    private static void state(boolean fine) {
        if (!fine) {
            throw new IllegalStateException();
        }
    }

    private static void argument(boolean fine) {
        if (!fine) {
            throw new IllegalArgumentException();
        }
    }

    private static void index(boolean fine) {
        if (!fine) {
            throw new IndexOutOfBoundsException();
        }
    }

    private int bytes() {
        return disk.size() - beginPlace;
    }

    boolean isCut() {
        return cut;
    }

    int unacknowledgedBytes() {
        return disk.size() - acknowledgedPlace;
    }

    /** Where, in the log, the acts of a head start; to aim changes at. */
    int startOf(boolean inUse) {
        return heads[inUse ? use : 1 - use].place - beginPlace;
    }

    int feed(int b) {
        state(!cut);
        argument(b >= 0 && b <= 255);
        state(pad.size() < 24);
        pad.add(b);
        return pad.size();
    }

    int act(int thing, int day) {
        state(!cut);
        index(thing >= 0 && thing <= 31);
        argument(day >= 0 && day <= 36500);
        state(next - begin < 64);
        int[] bytes = pad.stream().mapToInt(Integer::intValue).toArray();
        int[] stored = Acts.stored(thing, day, bytes);
        for (int b : stored) {
            disk.add(b);
        }
        latest[thing] = new Act(thing, day, bytes, Acts.sumOf(stored), stored.length);
        pad.clear();
        return next++;
    }

    int flush() {
        state(!cut);
        int were = next - acknowledged;
        acknowledged = next;
        acknowledgedPlace = disk.size();
        return were;
    }

    private void newHead(Head head) {
        use = 1 - use;
        heads[use] = head;
        torn[use] = false;
        Head other = heads[1 - use];
        begin = Math.min(head.first, other.first);
        beginPlace = head.first < other.first ? head.place : other.place;
    }

    int part() {
        flush();
        Head of = heads[use];
        Act[] finds = of.finds.clone();
        int[] upTo = of.upTo.clone();
        for (int thing = 0; thing < 32; thing++) {
            if (thing % 4 == turn) {
                finds[thing] = latest[thing];
            }
        }
        upTo[turn] = next;
        newHead(new Head(of.generation + 1, of.first, of.place, of.seal, finds, upTo));
        int was = turn;
        turn = (turn + 1) % 4;
        return was;
    }

    int cut() {
        flush();
        Head of = heads[use];
        int place = of.place;
        long seal = of.seal;
        for (int number = of.first; number <= next; number++) {
            Act act = number < next ? actAt(place) : null;
            if (act == null || number >= of.upTo[act.thing % 4]) {
                if (number > of.first) {
                    newHead(new Head(of.generation + 1, number, place, seal, of.finds, of.upTo));
                }
                return number - of.first;
            }
            place += act.length;
            seal = Acts.step(seal, act.sum);
        }
        throw new AssertionError();
    }

    int find(int thing, int i) {
        state(!cut);
        index(thing >= 0 && thing <= 31);
        Act act = latest[thing];
        if (i == -1) {
            return act == null ? -1 : act.bytes.length;
        }
        index(act != null && i >= 0 && i < act.bytes.length);
        return act.bytes[i];
    }

    int day(int thing) {
        state(!cut);
        index(thing >= 0 && thing <= 31);
        return latest[thing] == null ? -1 : latest[thing].day;
    }

    long seal() {
        state(!cut);
        long seal = heads[use].seal;
        int place = heads[use].place;
        for (int number = heads[use].first; number < next; number++) {
            Act act = actAt(place);
            seal = Acts.step(seal, act.sum);
            place += act.length;
        }
        return seal;
    }

    int crash(int kept) {
        state(!cut);
        argument(kept >= 0 && kept <= unacknowledgedBytes());
        disk.subList(acknowledgedPlace + kept, disk.size()).clear();
        cut = true;
        return bytes();
    }

    int tear() {
        state(cut);
        state(!torn[0] && !torn[1]);
        int which = heads[1 - use].generation > heads[use].generation ? 1 - use : use;
        torn[which] = true;
        return heads[which].generation;
    }

    int poke(int at, int mask) {
        state(cut);
        index(at >= 0 && at < bytes());
        argument(mask >= 1 && mask <= 255);
        return disk.set(beginPlace + at, stored(at) ^ mask);
    }

    int reopen() {
        state(cut);
        int best = use;
        if (torn[use] || !torn[1 - use] && heads[1 - use].generation > heads[use].generation) {
            best = 1 - use;
        }
        use = best;
        Head of = heads[use];
        latest = of.finds.clone();
        int number = of.first;
        int place = of.place;
        long seal = of.seal;
        bad = -1;
        while (place < disk.size() && bad == -1) {
            Act act = actAt(place);
            if (act == null || number + 1 - begin > 64) {
                bad = number;
            } else {
                if (number >= of.upTo[act.thing % 4]) {
                    latest[act.thing] = act;
                }
                seal = Acts.step(seal, act.sum);
                place += act.length;
                number++;
            }
        }
        next = number;
        if (bad != -1) {
            next = Math.max(number, Arrays.stream(of.upTo).max().getAsInt());
            int[] upTo = {next, next, next, next};
            disk.clear();
            beginPlace = 0;
            begin = next;
            Arrays.fill(heads, new Head(of.generation + 1, next, 0, seal, latest.clone(), upTo));
            Arrays.fill(torn, false);
        }
        acknowledged = next;
        acknowledgedPlace = disk.size();
        pad.clear();
        cut = false;
        return number - of.first;
    }

    private Act actAt(int place) {
        int left = disk.size() - place;
        if (left < 6 || left < 14 + disk.get(place + 5)) {
            return null;
        }
        int count = disk.get(place + 5);
        int[] all = disk.subList(place, place + 14 + count).stream().mapToInt(b -> b).toArray();
        long day = all[1] * 0x1000000L + all[2] * 0x10000 + all[3] * 0x100 + all[4];
        int[] bytes = Arrays.copyOfRange(all, 6, 6 + count);
        boolean fine = all[0] <= 31 && day <= 36500 && count <= 24
                && Arrays.equals(all, Acts.stored(all[0], day, bytes));
        return fine ? new Act(all[0], (int) day, bytes, Acts.sumOf(all), all.length) : null;
    }

    int badAt() {
        return bad;
    }

    int stored(int at) {
        index(at >= 0 && at < bytes());
        return disk.get(beginPlace + at);
    }

    int head(int what) {
        index(what >= 0 && what < 8);
        int[] all = {next, acknowledged, begin, bytes(), heads[use].generation, heads[use].first,
            turn, pad.size()};
        return all[what];
    }
}
