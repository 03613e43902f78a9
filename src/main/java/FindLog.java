/**
 * Records of finds as a log of acts that outlives cuts. README.md tells how to use it; the
 * numbered promises of the project's document tell what each call answers.
 */
public final class FindLog {
    public static final int NONE = -1;

    private static final int THINGS = 32;
    private static final int PARTS = 4;
    private static final int LAST_DAY = 36500;
    private static final int LAST_BYTE = 255;
    private static final int PAD_MOST = 24;
    private static final int LOG_MOST = 64;

    private static final int DAY_BYTES = 4;
    private static final int SUM_BYTES = 8;
    private static final int HEADER_BYTES = 1 + DAY_BYTES + 1;
    private static final int ACT_LEAST = HEADER_BYTES + SUM_BYTES;
    private static final int ACT_MOST = ACT_LEAST + PAD_MOST;

    private static final int BYTE_BITS = 8;
    private static final int TURN_BITS = 37;
    private static final int REST_BITS = 64 - TURN_BITS;
    private static final long FACTOR = 0x9E3779B97F4A7C15L;

    private final Bytes pad;
    private final Bytes log;
    private final Finds latest;
    private final StoredAct read;
    private Head used;
    private Head other;
    private int begin;
    private int next;
    private int acknowledged;
    private int acknowledgedBytes;
    private int turn;
    private int bad;
    private long sealNow;
    private boolean behindCut;

    public FindLog() {
        pad = new Bytes(PAD_MOST);
        log = new Bytes(LOG_MOST * ACT_MOST);
        latest = new Finds();
        read = new StoredAct();
        used = new Head();
        other = new Head();
        bad = NONE;
    }

    public int feed(int b) throws IllegalArgumentException, IllegalStateException {
        refuseBehindCut();
        if (b < 0 || b > LAST_BYTE) {
            throw new IllegalArgumentException("a byte is 0 .. 255");
        }
        if (pad.size() >= PAD_MOST) {
            throw new IllegalStateException("the pad is full");
        }
        pad.add(b);
        return pad.size();
    }

    public int act(int thing, int day)
            throws IndexOutOfBoundsException, IllegalArgumentException, IllegalStateException {
        refuseBehindCut();
        refuseNoThing(thing);
        if (day < 0 || day > LAST_DAY) {
            throw new IllegalArgumentException("a day is 0 .. 36500");
        }
        if (next - begin >= LOG_MOST) {
            throw new IllegalStateException("the log is full");
        }
        sealNow = mixed(sealNow, storeAct(thing, day));
        latest.keep(thing, day, pad, 0, pad.size());
        pad.shorten(0);
        int number = next;
        next = number + 1;
        return number;
    }

    public int flush() throws IllegalStateException {
        refuseBehindCut();
        int were = next - acknowledged;
        acknowledgeAll();
        return were;
    }

    public int part() throws IllegalStateException {
        refuseBehindCut();
        acknowledgeAll();
        int part = turn;
        other.follow(used);
        other.takeSnapshot(part, latest, next);
        useOther();
        turn = part + 1 < PARTS ? part + 1 : 0;
        return part;
    }

    public int cut() throws IllegalStateException {
        refuseBehindCut();
        acknowledgeAll();
        int first = used.first;
        int at = used.firstAt;
        long seal = used.seal;
        while (first < next && read.isWholeAt(log, at) && used.hasInSnapshot(read.thing, first)) {
            seal = mixed(seal, read.sum);
            at += read.length();
            first++;
        }
        int went = first - used.first;
        if (went > 0) {
            other.follow(used);
            other.startFrom(first, at, seal);
            useOther();
        }
        return went;
    }

    public int find(int thing, int i) throws IndexOutOfBoundsException, IllegalStateException {
        refuseBehindCut();
        refuseNoThing(thing);
        int count = latest.countOf(thing);
        if (i == NONE) {
            return count;
        }
        if (i < 0 || i >= count) {
            throw new IndexOutOfBoundsException("the thing's latest act has no such byte");
        }
        return latest.byteOf(thing, i);
    }

    public int day(int thing) throws IndexOutOfBoundsException, IllegalStateException {
        refuseBehindCut();
        refuseNoThing(thing);
        return latest.dayOf(thing);
    }

    public long seal() throws IllegalStateException {
        refuseBehindCut();
        return sealNow;
    }

    public int crash(int kept) throws IllegalArgumentException, IllegalStateException {
        refuseBehindCut();
        if (kept < 0 || kept > log.size() - acknowledgedBytes) {
            throw new IllegalArgumentException("there are not so many bytes to keep");
        }
        log.shorten(acknowledgedBytes + kept);
        behindCut = true;
        return log.size();
    }

    public int tear() throws IllegalStateException {
        refuseWithoutCut();
        if (!used.whole || !other.whole) {
            throw new IllegalStateException("only one head is whole");
        }
        Head torn = other.generation > used.generation ? other : used;
        torn.whole = false;
        return torn.generation;
    }

    public int poke(int at, int mask)
            throws IndexOutOfBoundsException, IllegalArgumentException, IllegalStateException {
        refuseWithoutCut();
        refuseNoByte(at);
        if (mask < 1 || mask > LAST_BYTE) {
            throw new IllegalArgumentException("a mask is 1 .. 255");
        }
        int was = log.get(at);
        log.set(at, was ^ mask);
        return was;
    }

    public int reopen() throws IllegalStateException {
        refuseWithoutCut();
        if (other.whole && (!used.whole || other.generation > used.generation)) {
            swapHeads();
        }
        latest.takeAll(used.finds);
        int count = readLog();
        if (bad != NONE) {
            startAnew();
        }
        acknowledgeAll();
        pad.shorten(0);
        behindCut = false;
        return count;
    }

    public int badAt() {
        return bad;
    }

    public int stored(int at) throws IndexOutOfBoundsException {
        refuseNoByte(at);
        return log.get(at);
    }

    public int head(int what) throws IndexOutOfBoundsException {
        switch (what) {
            case 0:
                return next;
            case 1:
                return acknowledged;
            case 2:
                return begin;
            case 3:
                return log.size();
            case 4:
                return used.generation;
            case 5:
                return used.first;
            case 6:
                return turn;
            case 7:
                return pad.size();
            default:
                throw new IndexOutOfBoundsException("a head tells 0 .. 7");
        }
    }

    private void refuseBehindCut() {
        if (behindCut) {
            throw new IllegalStateException("behind a cut, not opened again yet");
        }
    }

    private void refuseWithoutCut() {
        if (!behindCut) {
            throw new IllegalStateException("there was no cut");
        }
    }

    private void refuseNoByte(int at) {
        if (at < 0 || at >= log.size()) {
            throw new IndexOutOfBoundsException("the log has no such byte");
        }
    }

    private static void refuseNoThing(int thing) {
        if (thing < 0 || thing >= THINGS) {
            throw new IndexOutOfBoundsException("a thing is 0 .. 31");
        }
    }

    /** The one step that sums go on by (over bytes) and seals (over sums). */
    private static long mixed(long state, long by) {
        long changed = state ^ by;
        return ((changed << TURN_BITS) | (changed >>> REST_BITS)) * FACTOR;
    }

    /** Stores an act of the pad's bytes behind the log: its sum. */
    private long storeAct(int thing, int day) {
        int from = log.size();
        log.add(thing);
        log.addNumber(day, DAY_BYTES);
        log.add(pad.size());
        for (int i = 0; i < pad.size(); i++) {
            log.add(pad.get(i));
        }
        long sum = log.sumOf(from, log.size());
        log.addNumber(sum, SUM_BYTES);
        return sum;
    }

    private void acknowledgeAll() {
        acknowledged = next;
        acknowledgedBytes = log.size();
    }

    private void swapHeads() {
        Head former = used;
        used = other;
        other = former;
    }

    /** The other head has become a new one: it is used, and what no head needs is dropped. */
    private void useOther() {
        swapHeads();
        begin = Math.min(used.first, other.first);
        int dropped = Math.min(used.firstAt, other.firstAt);
        log.dropAhead(dropped);
        used.firstAt -= dropped;
        other.firstAt -= dropped;
        acknowledgedBytes -= dropped;
    }

    /** Reads the log from the used head's first on, up to its end or a bad act: how many. */
    private int readLog() {
        int number = used.first;
        int at = used.firstAt;
        sealNow = used.seal;
        while (at < log.size() && number - begin < LOG_MOST && read.isWholeAt(log, at)) {
            sealNow = mixed(sealNow, read.sum);
            if (!used.hasInSnapshot(read.thing, number)) {
                latest.keep(read.thing, read.day, log, at + HEADER_BYTES, read.count);
            }
            at += read.length();
            number++;
        }
        next = number;
        bad = at < log.size() ? number : NONE;
        return number - used.first;
    }

    /** Behind a bad act nothing in the log can be trusted: both heads keep all that was read. */
    private void startAnew() {
        next = Math.max(next, used.greatestUpTo());
        begin = next;
        log.shorten(0);
        used.startFrom(next, 0, sealNow);
        for (int part = 0; part < PARTS; part++) {
            used.takeSnapshot(part, latest, next);
        }
        used.generation++;
        other.copy(used);
    }

    /** A row of bytes that has a bound. Its own tests keep every index inside the row. */
    private static final class Bytes {
        private final int[] row;
        private int size;

        Bytes(int most) {
            row = new int[most > 0 ? most : 0];
        }

        int size() {
            return size;
        }

        int get(int at) {
            return at >= 0 && at < size && at < row.length ? row[at] : 0;
        }

        void set(int at, int b) {
            if (at >= 0 && at < size && at < row.length) {
                row[at] = b;
            }
        }

        void add(int b) {
            if (size >= 0 && size < row.length) {
                row[size] = b;
                size++;
            }
        }

        void addNumber(long number, int bytes) {
            for (int i = bytes - 1; i >= 0; i--) {
                add((int) (number >>> (i * BYTE_BITS)) & LAST_BYTE);
            }
        }

        long numberAt(int at, int bytes) {
            long number = 0;
            for (int i = 0; i < bytes; i++) {
                number = (number << BYTE_BITS) | get(at + i);
            }
            return number;
        }

        long sumOf(int from, int to) {
            long sum = 0;
            for (int at = from; at < to; at++) {
                sum = mixed(sum, get(at));
            }
            return sum;
        }

        void shorten(int to) {
            if (to >= 0 && to < size) {
                size = to;
            }
        }

        void dropAhead(int count) {
            if (count <= 0 || count > size || size > row.length) {
                return;
            }
            System.arraycopy(row, count, row, 0, size - count);
            size -= count;
        }
    }

    /** An act as the log has it. One object is used for all that are read, to make none anew. */
    private static final class StoredAct {
        int thing;
        int day;
        int count;
        long sum;

        boolean isWholeAt(Bytes log, int at) {
            int there = log.size() - at;
            if (at < 0 || there < ACT_LEAST) {
                return false;
            }
            // A long, as four bytes above 7FFFFFFF are a late day and not one below 0.
            long storedDay = log.numberAt(at + 1, DAY_BYTES);
            thing = log.get(at);
            count = log.get(at + HEADER_BYTES - 1);
            if (thing >= THINGS || storedDay > LAST_DAY || count > PAD_MOST || there < length()) {
                return false;
            }
            day = (int) storedDay;
            int sumAt = at + HEADER_BYTES + count;
            sum = log.numberAt(sumAt, SUM_BYTES);
            return sum == log.sumOf(at, sumAt);
        }

        int length() {
            return ACT_LEAST + count;
        }
    }

    /** The latest act of each thing; both its day and its count are NONE without one. */
    private static final class Finds {
        private final int[] days = new int[THINGS];
        private final int[] counts = new int[THINGS];
        private final int[] bytes = new int[THINGS * PAD_MOST];

        Finds() {
            for (int thing = 0; thing < THINGS; thing++) {
                days[thing] = NONE;
                counts[thing] = NONE;
            }
        }

        int dayOf(int thing) {
            return thing >= 0 && thing < THINGS ? days[thing] : NONE;
        }

        int countOf(int thing) {
            return thing >= 0 && thing < THINGS ? counts[thing] : NONE;
        }

        int byteOf(int thing, int i) {
            if (thing < 0 || thing >= THINGS || i < 0 || i >= PAD_MOST) {
                return 0;
            }
            return bytes[thing * PAD_MOST + i];
        }

        void keep(int thing, int day, Bytes from, int at, int count) {
            if (thing < 0 || thing >= THINGS || count < 0 || count > PAD_MOST) {
                return;
            }
            days[thing] = day;
            counts[thing] = count;
            for (int i = 0; i < count; i++) {
                bytes[thing * PAD_MOST + i] = from.get(at + i);
            }
        }

        void takeAll(Finds from) {
            System.arraycopy(from.days, 0, days, 0, THINGS);
            System.arraycopy(from.counts, 0, counts, 0, THINGS);
            System.arraycopy(from.bytes, 0, bytes, 0, THINGS * PAD_MOST);
        }

        void takePart(Finds from, int part) {
            if (part < 0) {
                return;
            }
            for (int thing = part; thing < THINGS; thing += PARTS) {
                int at = thing * PAD_MOST;
                days[thing] = from.days[thing];
                counts[thing] = from.counts[thing];
                System.arraycopy(from.bytes, at, bytes, at, PAD_MOST);
            }
        }
    }

    /** A head: from where the log is read, and what is kept of the acts ahead of that. */
    private static final class Head {
        final Finds finds = new Finds();
        private final int[] upTo = new int[PARTS];
        int generation;
        int first;
        /** Where the log has the act with the number first: bytes ahead of it may be changed. */
        int firstAt;
        long seal;
        boolean whole = true;

        boolean hasInSnapshot(int thing, int number) {
            return thing >= 0 && number < upTo[thing % PARTS];
        }

        int greatestUpTo() {
            int greatest = 0;
            for (int part = 0; part < PARTS; part++) {
                greatest = Math.max(greatest, upTo[part]);
            }
            return greatest;
        }

        void follow(Head former) {
            copy(former);
            generation++;
        }

        void copy(Head from) {
            generation = from.generation;
            startFrom(from.first, from.firstAt, from.seal);
            System.arraycopy(from.upTo, 0, upTo, 0, PARTS);
            finds.takeAll(from.finds);
            whole = from.whole;
        }

        void startFrom(int number, int at, long sealThere) {
            first = number;
            firstAt = at;
            seal = sealThere;
        }

        void takeSnapshot(int part, Finds from, int upToNumber) {
            if (part < 0 || part >= PARTS) {
                return;
            }
            finds.takePart(from, part);
            upTo[part] = upToNumber;
        }
    }
}
