/** Promises 15 to 17 (cut, start, changes) and THE DISK. */
final class DiskTest {
    private static final Check CHECK = new Check("DiskTest");

    public static void main(String[] args) {
        cutRefuses();
        cutAtTheNextBlock();
        cutLater();
        cutAnew();
        whatCountsAsAChange();
        startAgain();
        behindTheLoss();
        repliesVanish();
        copies();
        lossInACopy();
        lossDoesNotPutOffACopy();
        CHECK.end();
    }

    private static void cutRefuses() {
        CHECK.about("promise 15, refusals");
        Pair pair = new Pair(CHECK);
        CHECK.due("n -2", pair.cut(-2, 0), false);
        CHECK.due("n 1001", pair.cut(1001, 0), false);
        CHECK.due("tear -1", pair.cut(0, -1), false);
        CHECK.due("tear 32", pair.cut(0, 32), false);
        CHECK.due("tear 32 with n -1", pair.cut(-1, 32), false);
        CHECK.due("extremes", pair.cut(Integer.MIN_VALUE, Integer.MAX_VALUE), false);
        pair.open(1);
        CHECK.due("a refused one sets nothing", pair.done(1, 0, 1, 1), 1);
        CHECK.due("n -1", pair.cut(-1, 0), true);
        CHECK.due("n 1000, tear 31", pair.cut(1000, 31), true);
        CHECK.due("n 0", pair.cut(0, 31), true);
        CHECK.due("a refused one leaves what was set", pair.cut(-1, 32), false);
        pair.ask(1, 0, 2, 2, 0);
        pair.move(0, Pair.ALL);
        CHECK.due("server()", pair.server(), GuardedTree.NO_POWER);
        CHECK.due("without power", pair.cut(0, 0), false);
        CHECK.due("without power", pair.cut(-1, 0), false);
    }

    private static void cutAtTheNextBlock() {
        CHECK.about("promise 15, n 0 with each tear");
        for (int tear = 0; tear <= 31; tear++) {
            Pair pair = new Pair(CHECK);
            pair.open(1);
            CHECK.due("cut", pair.cut(0, tear), true);
            CHECK.due("what changes nothing", pair.done(8, 0, 0, 0), 1);
            CHECK.due("what is refused", pair.done(1, 0, 0, 0), GuardedTree.WRONG);
            pair.ask(1, 0, 1, 1, 0);
            pair.move(0, Pair.ALL);
            CHECK.due("server()", pair.server(), GuardedTree.NO_POWER);
            CHECK.due("changes()", pair.changes(), GuardedTree.NO_POWER);
            CHECK.due("no reply", pair.way(1), 0);
            CHECK.due("start()", pair.start(), 0);
            pair.open(2);
            CHECK.due("it was not done", pair.done(0, 0, 1, 1), GuardedTree.NO_NODE);
        }
    }

    private static void cutLater() {
        CHECK.about("promise 15, n 1 to 3");
        for (int n = 1; n <= 3; n++) {
            Pair pair = new Pair(CHECK);
            pair.open(1);
            pair.cut(n, 5);
            for (int i = 1; i <= 4; i++) {
                pair.ask(1, 0, i, i, 0);
            }
            pair.move(0, Pair.ALL);
            CHECK.due("server()", pair.server(), GuardedTree.NO_POWER);
            CHECK.due("replies of those before", pair.way(1), n * 64);
            CHECK.due("start()", pair.start(), n);
            CHECK.due("changes()", pair.changes(), n);
            pair.move(1, Pair.ALL);
            for (int i = 1; i <= 4; i++) {
                CHECK.due("status " + i, pair.status(i), i <= n ? i : GuardedTree.PENDING);
            }
            pair.open(2);
            for (int i = 1; i <= 4; i++) {
                CHECK.due("directory " + i, pair.done(0, 0, i, i), i <= n ? i : GuardedTree.NO_NODE);
            }
        }
    }

    private static void cutAnew() {
        CHECK.about("promise 15, what was set before does not count");
        Pair pair = new Pair(CHECK);
        pair.open(1);
        pair.cut(0, 0);
        pair.cut(1, 0);
        CHECK.due("done", pair.done(1, 0, 1, 1), 1);
        pair.cut(1, 0);
        CHECK.due("done", pair.done(1, 0, 2, 1), 2);
        pair.cut(-1, 0);
        CHECK.due("done", pair.done(1, 0, 3, 1), 3);
        CHECK.due("done", pair.done(1, 0, 4, 1), 4);
        pair.cut(0, 0);
        pair.open(5);
        pair.ask(1, 0, 5, 1, 0);
        pair.move(0, Pair.ALL);
        CHECK.due("a new connection leaves it", pair.server(), GuardedTree.NO_POWER);
        pair.start();
        pair.open(6);
        CHECK.due("power stays", pair.done(1, 0, 5, 1), 5);
        CHECK.due("power stays", pair.done(1, 0, 6, 1), 6);
    }

    private static void whatCountsAsAChange() {
        CHECK.about("promise 17");
        Pair pair = new Pair(CHECK);
        CHECK.due("at first", pair.changes(), 0);
        pair.open(1);
        int[][] requests = {
            {1, 0, 1, 1, 0, 1}, {2, 0, 2, 2, 0, 1}, {0, 0, 1, 1, 0, 0}, {3, 2, 0, 1, 0, 0}, {4, 2, 0, 5, 0, 1},
            {5, 2, 5, 0, 0, 1}, {5, 2, 0, 0, 0, 1}, {7, 2, 1, 2, 2, 1}, {8, 1, 0, 0, 0, 0}, {9, 0, 0, 0, 0, 0},
            {6, 1, 0, 0, 0, 0}, {6, 2, 0, 0, 0, 1}, {6, 1, 0, 0, 0, 1}, {1, 0, 0, 0, 0, 0}, {4, 2, 0, 5, 0, 0}};
        int want = 0;
        for (int[] r : requests) {
            pair.done(r[0], r[1], r[2], r[3], r[4]);
            pair.move(0, Pair.ALL);
            want += r[5];
            CHECK.due("behind kind " + r[0], pair.changes(), want);
        }
        pair.close();
        CHECK.due("without a connection", pair.changes(), want);
    }

    private static void startAgain() {
        CHECK.about("promise 16");
        Pair pair = new Pair(CHECK);
        CHECK.due("with power", pair.start(), GuardedTree.NONE);
        pair.open(1);
        pair.done(2, 0, 1, 1);
        pair.put(0x41424344);
        pair.done(4, 1, 0, 4);
        CHECK.due("with power", pair.start(), GuardedTree.NONE);
        CHECK.due("the connection stays", pair.server(), 2);
        pair.cut(0, 9);
        pair.ask(8, 1, 1, 0, 0);
        pair.ask(6, 1, 0, 0, 0);
        pair.move(0, Pair.ALL);
        pair.ask(8, 1, 1, 0, 0);
        CHECK.due("start()", pair.start(), 2);
        CHECK.due("start()", pair.start(), GuardedTree.NONE);
        CHECK.due("changes()", pair.changes(), 2);
        CHECK.due("server()", pair.server(), 0);
        CHECK.due("client()", pair.client(), 2);
        CHECK.due("way(0)", pair.way(0), 64);
        CHECK.due("way(1)", pair.way(1), 64);
        pair.move(1, Pair.ALL);
        CHECK.due("the reply that was on the way", pair.status(3), 4);
        CHECK.due("the one that was not done", pair.status(4), GuardedTree.PENDING);
        CHECK.due("the client still asks", pair.ask(8, 0, 0, 0, 0), 6);
        CHECK.due("it vanishes", pair.move(0, Pair.ALL), 128);
        CHECK.due("way(1)", pair.way(1), 0);
        pair.open(1);
        CHECK.due("lost by the new connection", pair.status(4), GuardedTree.LOST);
        CHECK.due("the file is there", pair.done(3, 1, 0, 64), 4);
        CHECK.due("its first byte", pair.data(7, 0), 0x41);
        CHECK.due("changes()", pair.changes(), 2);
    }

    private static void behindTheLoss() {
        CHECK.about("what came behind it is not done");
        Pair pair = new Pair(CHECK);
        pair.open(1);
        pair.cut(0, 0);
        pair.ask(1, 0, 1, 1, 0);
        pair.ask(8, 0, 0, 0, 0);
        pair.ask(1, 0, 2, 2, 0);
        pair.move(0, 70);
        pair.start();
        pair.move(0, Pair.ALL);
        CHECK.due("way(1)", pair.way(1), 0);
        CHECK.due("changes()", pair.changes(), 0);
        CHECK.due("server()", pair.server(), 0);
        pair.open(1);
        CHECK.due("a new connection works", pair.done(1, 0, 1, 1), 1);
    }

    private static void repliesVanish() {
        CHECK.about("replies that wait vanish");
        Pair pair = new Pair(CHECK);
        pair.open(1);
        pair.done(2, 0, 1, 1);
        pair.done(4, 1, 0, 64);
        pair.open(1);
        for (int i = 0; i < 6; i++) {
            pair.ask(3, 1, 0, 64, 0);
        }
        pair.ask(5, 1, 0, 0, 0);
        pair.cut(0, 0);
        pair.move(0, Pair.ALL);
        CHECK.due("server()", pair.server(), GuardedTree.NO_POWER);
        CHECK.due("way(1)", pair.way(1), 5 * 128);
        pair.move(1, Pair.ALL);
        pair.start();
        CHECK.due("the grant vanishes", pair.move(0, Pair.ALL), 48);
        CHECK.due("nothing comes", pair.way(1), 0);
        pair.open(1);
        CHECK.due("a new connection", pair.done(8, 0, 0, 0), 1);
        CHECK.due("the file was not cut", pair.done(8, 1, 1, 0), 64);
    }

    /** Changes of a file 1 that is there, until so many are written down; all they do is to cut it to 0 bytes. */
    private static void changeUntil(Pair pair, int count) {
        while (pair.model.changes() >= 0 && pair.model.changes() < count) {
            int asked = 0;
            while (asked < count - pair.model.changes() && asked < 9 && pair.model.credit(0) >= 22) {
                pair.ask(5, 1, 0, 0, 0);
                asked++;
            }
            pair.moveAll();
        }
    }

    private static Pair withChanges(int count) {
        Pair pair = new Pair(CHECK);
        pair.open(1);
        pair.done(2, 0, 1, 1);
        changeUntil(pair, count);
        CHECK.due("changes()", pair.changes(), count);
        return pair;
    }

    private static void copies() {
        CHECK.about("a copy before the 65th change");
        int[][] cases = {{62, 0, 62}, {62, 1, 63}, {62, 2, 64}, {63, 0, 63}, {63, 1, 64}, {63, 130, 64},
            {63, 131, 65}, {64, 0, 64}, {64, 1, 64}, {64, 128, 64}, {64, 129, 64}, {64, 130, 65}, {64, 131, 66},
            {65, 0, 65}, {65, 1, 66}, {127, 1, 128}, {127, 2, 128}, {127, 130, 128}, {127, 131, 129}, {128, 129, 128},
            {128, 130, 129}};
        for (int[] one : cases) {
            Pair pair = withChanges(one[0]);
            pair.cut(one[1], 7);
            for (int i = 0; i < 3; i++) {
                pair.ask(5, 1, 0, 0, 0);
                pair.move(0, Pair.ALL);
                pair.move(1, Pair.ALL);
            }
            String call = one[0] + " changes, cut(" + one[1] + ", 7)";
            CHECK.due(call + ", server()", pair.server(), GuardedTree.NO_POWER);
            CHECK.due(call + ", start()", pair.start(), one[2]);
        }
    }

    private static void lossInACopy() {
        CHECK.about("power goes in a copy: it is made anew");
        for (int n : new int[] {0, 1, 64, 127, 128}) {
            Pair pair = withChanges(64);
            pair.cut(n, 31);
            pair.ask(5, 1, 0, 0, 0);
            pair.move(0, Pair.ALL);
            CHECK.due("server()", pair.server(), GuardedTree.NO_POWER);
            CHECK.due("start()", pair.start(), 64);
            pair.open(2);
            pair.cut(128, 0);
            pair.ask(5, 1, 0, 0, 0);
            pair.move(0, Pair.ALL);
            CHECK.due("in the copy's last block", pair.start(), 64);
            pair.open(3);
            pair.cut(130, 0);
            CHECK.due("behind copy and change", pair.done(5, 1, 0, 0), 0);
            CHECK.due("changes()", pair.changes(), 65);
            pair.ask(5, 1, 0, 0, 0);
            pair.move(0, Pair.ALL);
            CHECK.due("at the next change", pair.start(), 65);
        }
    }

    private static void lossDoesNotPutOffACopy() {
        CHECK.about("power goes at the change behind a whole copy, and before a copy is due");
        Pair pair = withChanges(64);
        pair.cut(129, 0);
        pair.ask(5, 1, 0, 0, 0);
        pair.move(0, Pair.ALL);
        CHECK.due("start()", pair.start(), 64);
        pair.open(2);
        pair.cut(1, 0);
        CHECK.due("no copy again", pair.done(5, 1, 0, 0), 0);
        CHECK.due("server()", pair.server(), 2);
        pair.ask(5, 1, 0, 0, 0);
        pair.move(0, Pair.ALL);
        CHECK.due("start()", pair.start(), 65);

        pair = withChanges(40);
        pair.cut(0, 0);
        pair.ask(5, 1, 0, 0, 0);
        pair.move(0, Pair.ALL);
        CHECK.due("start()", pair.start(), 40);
        pair.open(2);
        changeUntil(pair, 64);
        pair.cut(1, 0);
        pair.ask(5, 1, 0, 0, 0);
        pair.move(0, Pair.ALL);
        CHECK.due("64 since the beginning", pair.server(), GuardedTree.NO_POWER);
        CHECK.due("start()", pair.start(), 64);
    }
}
