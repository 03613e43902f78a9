import java.math.BigInteger;
import java.util.Arrays;

/** Acts as the document stores them, computed apart from the class under test. */
final class Acts {
    private static final BigInteger FACTOR = new BigInteger("9E3779B97F4A7C15", 16);

    private Acts() {
    }

    static long step(long state, long by) {
        return BigInteger.valueOf(Long.rotateLeft(state ^ by, 37)).multiply(FACTOR).longValue();
    }

    static long sum(int[] bytes, int from, int to) {
        long sum = 0;
        for (int i = from; i < to; i++) {
            sum = step(sum, bytes[i]);
        }
        return sum;
    }

    /** What is stored for an act; the day is any number of four bytes, to make bad ones too. */
    static int[] stored(int thing, long day, int... pad) {
        int[] all = new int[14 + pad.length];
        all[0] = thing;
        for (int i = 0; i < 4; i++) {
            all[1 + i] = (int) (day >> (24 - 8 * i)) & 255;
        }
        all[5] = pad.length;
        System.arraycopy(pad, 0, all, 6, pad.length);
        long sum = sum(all, 0, 6 + pad.length);
        for (int i = 0; i < 8; i++) {
            all[6 + pad.length + i] = (int) (sum >> (56 - 8 * i)) & 255;
        }
        return all;
    }

    static long sumOf(int[] stored) {
        return sum(stored, 0, stored.length - 8);
    }

    /** The seal over acts, going on from another one. */
    static long seal(long from, int[]... acts) {
        long seal = from;
        for (int[] act : acts) {
            seal = step(seal, sumOf(act));
        }
        return seal;
    }

    static void feedAll(FindLog log, int... bytes) {
        for (int b : bytes) {
            log.feed(b);
        }
    }

    /** Feeds the bytes and makes an act of them: its number. */
    static int put(FindLog log, int thing, int day, int... bytes) {
        feedAll(log, bytes);
        return log.act(thing, day);
    }

    /** A row of so many times the same byte. */
    static int[] times(int count, int b) {
        int[] bytes = new int[count];
        Arrays.fill(bytes, b);
        return bytes;
    }

    /** Pokes the log, behind a cut, till it has these bytes from a place on. */
    static void rewrite(FindLog log, int at, int[] bytes) {
        for (int i = 0; i < bytes.length; i++) {
            int mask = log.stored(at + i) ^ bytes[i];
            if (mask != 0) {
                log.poke(at + i, mask);
            }
        }
    }
}
