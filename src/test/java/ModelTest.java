/**
 * Long runs of calls, chosen by a fixed row of numbers, answered by the class and by Model. They go
 * beyond the 512 calls of the document, as the class has no such bound; all other tests stay within them.
 */
public final class ModelTest {
    private static final Check CHECK = new Check("ModelTest");
    private static final int RUNS = 120;
    private static final int STEPS = 400;

    private final FindLog log = new FindLog();
    private final Model model = new Model();
    private final int run;
    private long row;
    private int step;

    private ModelTest(int run) {
        this.run = run;
        this.row = run * 7919L + 1;
    }

    public static void main(String[] args) {
        for (int run = 0; run < RUNS && CHECK.wrong() == 0; run++) {
            new ModelTest(run).go();
        }
        CHECK.end();
    }

    private void go() {
        for (step = 0; step < STEPS && CHECK.wrong() == 0; step++) {
            if (model.isCut() ? below(8) != 0 : below(40) == 0) {
                behindCut();
            } else {
                ordinary();
            }
            compareHeads();
            if (below(12) == 0) {
                compareAll();
            }
        }
        compareAll();
    }

    /** 0 .. bound - 1. */
    private int below(int bound) {
        row = row * 6364136223846793005L + 1442695040888963407L;
        return (int) ((row >>> 33) % bound);
    }

    private int nearly(int bound) {
        return below(60) == 0 ? (below(2) == 0 ? -1 - below(2) : bound + below(2)) : below(bound);
    }

    private void same(String what, Check.Call got, Check.Call due) {
        String answer = Check.answerOf(got);
        String wanted = Check.answerOf(due);
        if (!answer.equals(wanted)) {
            CHECK.tell("run " + run + " step " + step + ": " + what, answer, wanted);
        }
    }

    private void ordinary() {
        switch (below(16)) {
            case 0, 1 -> feedSome(below(26));
            case 2 -> feedSome(below(3));
            case 3 -> same("flush", log::flush, model::flush);
            case 4, 5 -> same("part", log::part, model::part);
            case 6, 7 -> same("cut", log::cut, model::cut);
            case 8 -> crash();
            default -> actSome();
        }
    }

    private void feedSome(int count) {
        for (int i = 0; i < count; i++) {
            int b = nearly(256);
            same("feed " + b, () -> log.feed(b), () -> model.feed(b));
        }
    }

    private void actSome() {
        int count = run % 3 == 0 ? 1 : 1 + below(4);
        for (int i = 0; i < count; i++) {
            int thing = run % 2 == 0 ? nearly(32) : nearly(5);
            int day = nearly(36501);
            same("act " + thing + " " + day, () -> log.act(thing, day), () -> model.act(thing, day));
        }
    }

    /** Every fifth run fills its log first, so that acts laid over it can be more than 64. */
    private boolean fillsItsLog() {
        return run % 5 == 0;
    }

    private void crash() {
        if (fillsItsLog() && model.head(0) - model.head(2) < 60) {
            actSome();
            return;
        }
        int most = model.unacknowledgedBytes();
        int kept = below(3) == 0 ? most : nearly(most + 1);
        same("crash " + kept, () -> log.crash(kept), () -> model.crash(kept));
    }

    private void behindCut() {
        switch (below(6)) {
            case 0 -> same("tear", log::tear, model::tear);
            case 1 -> poke();
            case 2 -> rewrite();
            default -> same("reopen", log::reopen, model::reopen);
        }
    }

    private void poke() {
        int at = nearly(Math.max(1, model.head(3)));
        int mask = 1 + nearly(255);
        same("poke " + at + " " + mask, () -> log.poke(at, mask), () -> model.poke(at, mask));
    }

    /** Lays whole acts over what is stored, so that more, fewer or other acts are read. */
    private void rewrite() {
        if (!model.isCut()) {
            same("reopen", log::reopen, model::reopen);
            return;
        }
        int at = model.startOf(below(2) == 0);
        int longest = 1 + below(fillsItsLog() ? 4 : 25);
        for (int acts = fillsItsLog() ? 80 : below(80); acts > 0; acts--) {
            int left = model.head(3) - at - 14;
            if (left < 0) {
                return;
            }
            int count = left <= 24 && below(4) == 0 ? left : Math.min(left, below(longest));
            long day = below(200) == 0 ? 0x80000000L : below(200) == 0 ? 36501 : below(36501);
            layOver(at, Acts.stored(below(150) == 0 ? 32 : below(32), day, new int[count]));
            at += 14 + count;
        }
    }

    private void layOver(int from, int[] bytes) {
        for (int i = 0; i < bytes.length; i++) {
            int at = from + i;
            int mask = model.stored(at) ^ bytes[i];
            if (mask != 0) {
                same("poke " + at + " " + mask, () -> log.poke(at, mask), () -> model.poke(at, mask));
            }
        }
    }

    private void compareHeads() {
        for (int i = -1; i <= 8; i++) {
            int what = i;
            same("head " + what, () -> log.head(what), () -> model.head(what));
        }
        same("badAt", log::badAt, model::badAt);
        int at = nearly(Math.max(1, model.head(3)));
        same("stored " + at, () -> log.stored(at), () -> model.stored(at));
        int thing = nearly(32);
        same("day " + thing, () -> log.day(thing), () -> model.day(thing));
    }

    private void compareAll() {
        same("seal", log::seal, model::seal);
        for (int i = 0; i <= model.head(3); i++) {
            int at = i;
            same("stored " + at, () -> log.stored(at), () -> model.stored(at));
        }
        for (int i = -1; i <= 32; i++) {
            int thing = i;
            same("day " + thing, () -> log.day(thing), () -> model.day(thing));
            for (int j = -2; j <= 24; j++) {
                int at = j;
                same("find " + thing + " " + at, () -> log.find(thing, at), () -> model.find(thing, at));
            }
        }
    }
}
