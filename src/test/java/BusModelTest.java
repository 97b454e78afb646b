import java.util.Random;

/**
 * Runs of chance calls (the same ones each time), StuffedBus against BusModel, answer by answer. No
 * object gets more than 512 calls, as nothing is promised beyond these: behind each call that does
 * something one question is asked, and at the end of the run all.
 */
public final class BusModelTest {
    private static final int RUNS = 4000;
    private static final int CALLS = 512;
    // A step makes up to 26 calls, with its question; all questions, but for bytes, are up to 100.
    private static final int LONGEST = CALLS - 26 - 100;
    private static final int[] ODD = {-1, 6, 8, 16, 200, 1001, 2048, Integer.MIN_VALUE, Integer.MAX_VALUE};

    private final Random chance;
    // Runs differ in how often frames bear a connection's identifier, and in how often time passes.
    private final int strangers;
    private final int restless;
    private final StuffedBus bus = new StuffedBus();
    private final BusModel model = new BusModel();
    private final int[] used = {3, 5, 9, 100, 0, 2047, 1984, 63, 1055, 31};
    private final boolean[] connected = new boolean[8];
    private final StringBuilder story = new StringBuilder();
    private int calls;

    private interface Call {
        long answer();
    }

    private BusModelTest(long seed) {
        chance = new Random(seed);
        strangers = new int[] {5, 60, 90}[chance.nextInt(3)];
        restless = new int[] {50, 40, 0}[chance.nextInt(3)];
    }

    public static void main(String[] args) {
        for (int seed = 0; seed < RUNS; seed++) {
            if (!new BusModelTest(seed).agrees()) {
                Check.isTrue("run of seed " + seed, false);
                break;
            }
        }
        Check.isTrue(RUNS + " runs agree", true);
        Check.finish();
    }

    private boolean agrees() {
        int length = LONGEST / 4 + chance.nextInt(LONGEST - LONGEST / 4);
        boolean agrees = true;
        while (calls < length && agrees) {
            agrees = callAgrees() && questionAgrees();
        }
        agrees = agrees && stateAgrees();
        if (!agrees) {
            System.out.println(story);
        }
        return agrees;
    }

    private static String outcome(Call call) {
        try {
            return Long.toString(call.answer());
        } catch (RuntimeException e) {
            return e.getClass().getSimpleName();
        }
    }

    private boolean same(String call, Call ours, Call due) {
        calls++;
        String got = outcome(ours);
        String want = outcome(due);
        story.append(call).append(" -> ").append(got).append('\n');
        if (!got.equals(want)) {
            story.append("due: ").append(want);
            return false;
        }
        return true;
    }

    private int below(int bound) {
        return chance.nextInt(60) == 0 ? ODD[chance.nextInt(ODD.length)] : chance.nextInt(bound);
    }

    private int identifier() {
        return used[chance.nextInt(used.length)];
    }

    private int identifierOfFrame() {
        return chance.nextInt(100) < strangers ? below(2048) : identifier();
    }

    private boolean callAgrees() {
        int kind = chance.nextInt(100);
        if (chance.nextInt(100) < restless) {
            return same("rounds 3", () -> bus.rounds(3), () -> model.rounds(3));
        }
        if (kind < 6) {
            return connects();
        } else if (kind < 9) {
            return floods();
        } else if (kind < 30) {
            return sends();
        } else if (kind < 50) {
            return frames();
        } else if (kind < 60) {
            int k = chance.nextInt(3) == 0 ? below(200) : chance.nextInt(130);
            return same("spoil " + k, () -> run(() -> bus.spoil(k)), () -> run(() -> model.spoil(k)));
        } else if (kind < 80) {
            return same("round", bus::round, model::round);
        } else if (kind < 90) {
            int n = chance.nextInt(30) == 0 ? below(50) : chance.nextInt(8);
            return same("rounds " + n, () -> bus.rounds(n), () -> model.rounds(n));
        } else if (kind < 94) {
            int n = below(6);
            return same("restart " + n, () -> bus.restart(n) ? 1 : 0, () -> model.restart(n) ? 1 : 0);
        }
        return codes();
    }

    private static long run(Runnable call) {
        call.run();
        return 0;
    }

    private boolean connects() {
        int c = chance.nextInt(4) == 0 ? below(8) : below(3);
        int from = below(6);
        int to = below(6);
        int x = identifier();
        int y = identifier();
        int block = below(chance.nextBoolean() ? 16 : 3);
        boolean agrees = same("connect " + c + " " + from + " " + to + " " + x + " " + y + " " + block,
                () -> run(() -> bus.connect(c, from, to, x, y, block)),
                () -> run(() -> model.connect(c, from, to, x, y, block)));
        if (c >= 0 && c < 8) {
            connected[c] |= story.toString().endsWith(" -> 0\n");
        }
        return agrees;
    }

    private boolean fills(int first, int n) {
        boolean agrees = same("end 0", () -> run(() -> bus.end(0)), () -> run(() -> model.end(0)));
        for (int have = 0; have < n && agrees; have += 20) {
            int[] d = {have == 0 ? first : chance.nextInt(), chance.nextInt(), 0, -1, chance.nextInt()};
            agrees = same("feed " + d[0] + " " + d[1], () -> bus.feed(d[0], d[1], d[2], d[3], d[4]),
                    () -> model.feed(d[0], d[1], d[2], d[3], d[4]));
        }
        return agrees && same("end " + n, () -> run(() -> bus.end(n)), () -> run(() -> model.end(n)));
    }

    private boolean sends() {
        int n = chance.nextInt(25) == 0 ? chance.nextInt(425) : chance.nextInt(40);
        int c = chance.nextInt(4) == 0 ? below(8) : below(3);
        return fills(chance.nextInt(), n)
                && same("send " + c, () -> run(() -> bus.send(c)), () -> run(() -> model.send(c)));
    }

    private int headOfFrame() {
        int[] heads = {1, 2, 7, 0x10, 0x11, 0x12, 0x21, 0x22, 0x23, 48, 49, 50, 0, 8};
        int head = chance.nextInt(10) == 0 ? chance.nextInt(256) : heads[chance.nextInt(heads.length)];
        int second = chance.nextInt(3) == 0 ? chance.nextInt(256) : chance.nextInt(20);
        return head << 24 | second << 16 | chance.nextInt(65536);
    }

    private boolean frames() {
        int n = chance.nextInt(3) == 0 ? chance.nextInt(10) : 8;
        int node = below(6);
        int identifier = identifierOfFrame();
        return fills(headOfFrame(), n) && same("frame " + node + " " + identifier,
                () -> bus.frame(node, identifier), () -> model.frame(node, identifier));
    }

    /** Frames of all nodes that go last, so that boxes get full while messages go on. */
    private boolean floods() {
        int node = chance.nextInt(6);
        boolean agrees = fills(0, 0);
        for (int i = 0; i < 16 && agrees; i++) {
            int identifier = 2000 + node;
            agrees = same("frame " + node + " " + identifier,
                    () -> bus.frame(node, identifier), () -> model.frame(node, identifier));
        }
        return agrees;
    }

    private boolean codes() {
        int identifier = identifierOfFrame();
        boolean agrees = same("coded " + identifier,
                () -> bus.coded(identifier), () -> model.coded(identifier));
        int from = chance.nextInt(115);
        for (int i = from; i < from + 15 && agrees; i++) {
            int at = i;
            agrees = same("bit " + at, () -> bus.bit(at), () -> model.bit(at));
        }
        return agrees;
    }

    private boolean questionAgrees() {
        switch (chance.nextInt(5)) {
            case 0:
                return latestAgrees(below(4));
            case 1:
                return nodeAgrees(below(6), below(4));
            case 2:
                int at = below(40);
                int c = below(8);
                return same("byteAt " + c + " " + at, () -> bus.byteAt(c, at), () -> model.byteAt(c, at));
            default:
                return aboutAgrees(chance.nextInt(4) == 0 ? below(8) : below(3), below(9));
        }
    }

    private boolean latestAgrees(int what) {
        return same("latest " + what, () -> bus.latest(what), () -> model.latest(what));
    }

    private boolean nodeAgrees(int n, int what) {
        return same("node " + n + " " + what, () -> bus.node(n, what), () -> model.node(n, what));
    }

    private boolean aboutAgrees(int c, int what) {
        return same("about " + c + " " + what, () -> bus.about(c, what), () -> model.about(c, what));
    }

    private boolean stateAgrees() {
        boolean agrees = true;
        for (int what = 0; what < 4 && agrees; what++) {
            agrees = latestAgrees(what);
            for (int n = 0; n < 6 && agrees; n++) {
                agrees = nodeAgrees(n, what);
            }
        }
        for (int c = 0; c < 8 && agrees; c++) {
            for (int what = 0; what < 9 && agrees && connected[c]; what++) {
                agrees = aboutAgrees(c, what);
            }
        }
        for (int c = 0; c < 8 && agrees; c++) {
            agrees = !connected[c] || messageAgrees(c);
        }
        return agrees;
    }

    private boolean messageAgrees(int c) {
        boolean agrees = true;
        for (int i = 0; i < model.about(c, 8) && calls < CALLS && agrees; i++) {
            int at = i;
            agrees = same("byteAt " + c + " " + at, () -> bus.byteAt(c, at), () -> model.byteAt(c, at));
        }
        return agrees;
    }
}
