/** THE DISK: what is written down, copies, and losses of power. */
final class DiskTest {
    private static final Check CHECK = new Check("DiskTest");
    private static final int[] CHANGE = {5, 1, 0, 0, 0};

    public static void main(String[] args) {
        whatIsWrittenDown();
        whatIsNotWrittenDown();
        oneBlock();
        copyBehindSixtyFour();
        copyBehindSixtyFourMore();
        copySinceTheBeginning();
        blocksOfACopy();
        powerGoesAtABlock();
        lossInACopy();
        lossBehindACopy();
        thatRequestIsNotDone();
        whatCameBehindIsNotDone();
        whatWasWrittenBeforeIsDone();
        repliesThatWaitVanish();
        whatComesVanishes();
        CHECK.end();
    }

    /** Directory 1 and file 2 (5 bytes) in the root, by three changes. */
    private static Pair tree() {
        Pair pair = Pair.opened(CHECK, 1);
        pair.done(1, 0, 1, 1);
        pair.done(2, 0, 2, 2);
        pair.done(4, 2, 0, 5);
        return pair;
    }

    private static final int[][] CHANGES = {
        {1, 0, 9, 9, 0}, {2, 0, 9, 9, 0}, {4, 2, 0, 1, 0}, {4, 2, 5, 64, 0}, {5, 2, 0, 0, 0}, {5, 2, 5, 0, 0},
        {6, 1, 0, 0, 0}, {6, 2, 0, 0, 0}, {7, 1, 0, 9, 9}, {7, 2, 1, 2, 2}};

    private static void whatIsWrittenDown() {
        CHECK.sentence("Terms",
            "A request that changes the tree (kinds 1, 2, 4 to 7 that are not refused) is written down");
        for (int[] r : CHANGES) {
            Pair pair = tree();
            pair.cut(0, 0);
            pair.ask(r[0], r[1], r[2], r[3], r[4]);
            pair.move(0, pair.way(0) - 1);
            CHECK.due("server(), a byte lacks", pair.server(), 2);
            pair.move(0, 1);
            CHECK.due("server(), kind " + r[0], pair.server(), GuardedTree.NO_POWER);
            CHECK.due("start()", pair.start(), 3);
            pair.open(2);
            CHECK.due("done when there is power, kind " + r[0], pair.done(r[0], r[1], r[2], r[3], r[4]) >= 0, true);
            CHECK.due("changes()", pair.changes(), 4);
        }
    }

    private static final int[][] NO_CHANGES = {
        {0, 0, 1, 1, 0}, {3, 2, 0, 5, 0}, {8, 0, 0, 0, 0}, {9, 0, 0, 0, 0}, {1, 0, 0, 0, 0}, {2, 0, 1, 1, 0},
        {4, 1, 0, 1, 0}, {4, 2, 0, 0, 0}, {5, 2, 6, 0, 0}, {6, 0, 0, 0, 0}, {7, 1, 1, 9, 9}, {7, 2, 0, 2, 2}};

    private static void whatIsNotWrittenDown() {
        CHECK.sentence("Terms", "that are not refused");
        Pair pair = tree();
        pair.cut(0, 0);
        for (int[] r : NO_CHANGES) {
            pair.done(r[0], r[1], r[2], r[3], r[4]);
            CHECK.due("server(), kind " + r[0], pair.server(), 2);
            CHECK.due("changes(), kind " + r[0], pair.changes(), 3);
        }
        pair.losePower();
        CHECK.due("start()", pair.start(), 3);
    }

    private static void oneBlock() {
        CHECK.sentence("Terms", "is written down before it is done: one block");
        for (int n = 0; n <= 3; n++) {
            Pair pair = tree();
            pair.cut(n, 3);
            for (int i = 0; i < 4; i++) {
                pair.ask(4, 2, 0, 1, 0);
            }
            pair.move(0, Pair.ALL);
            CHECK.due("server()", pair.server(), GuardedTree.NO_POWER);
            CHECK.due("way(1), cut(" + n + ", 3)", pair.way(1), n * 64);
            CHECK.due("start(), cut(" + n + ", 3)", pair.start(), 3 + n);
        }
    }

    private static int change(Pair pair) {
        return pair.done(CHANGE[0], CHANGE[1], CHANGE[2], CHANGE[3], CHANGE[4]);
    }

    /** Changes of a file 1 that is there, until so many are written down. */
    private static void changeUntil(Pair pair, int count) {
        while (pair.model.changes() >= 0 && pair.model.changes() < count) {
            pair.askMany(Math.min(9, count - pair.model.changes()), CHANGE[0]);
            pair.moveAll();
        }
        CHECK.due("changes()", pair.changes(), count);
    }

    private static Pair withChanges(int count) {
        Pair pair = Pair.opened(CHECK, 1);
        pair.done(2, 0, 1, 1);
        changeUntil(pair, count);
        return pair;
    }

    /** How many changes are done before power goes at a block that is counted from now on. */
    private static void doneBefore(Pair pair, int n, int want) {
        int before = pair.changes();
        pair.cut(n, 7);
        for (int i = 0; i < 4 && pair.server() != GuardedTree.NO_POWER; i++) {
            pair.askMany(1, CHANGE[0]);
            pair.moveAll();
        }
        CHECK.due("server(), " + before + " changes, cut(" + n + ", 7)", pair.server(), GuardedTree.NO_POWER);
        CHECK.due("start(), " + before + " changes, cut(" + n + ", 7)", pair.start(), before + want);
    }

    private static void copyBehindSixtyFour() {
        CHECK.sentence("Terms",
            "When 64 were written down since the last COPY that was made wholly (or since the beginning");
        int[][] cases = {{62, 0, 0}, {62, 1, 1}, {62, 2, 2}, {62, 130, 2}, {62, 131, 2}, {62, 132, 3},
            {63, 0, 0}, {63, 1, 1}, {63, 129, 1}, {63, 130, 1}, {63, 131, 2},
            {64, 0, 0}, {64, 1, 0}, {64, 129, 0}, {64, 130, 1}, {64, 131, 2},
            {65, 0, 0}, {65, 1, 1}, {65, 2, 2}};
        for (int[] one : cases) {
            doneBefore(withChanges(one[0]), one[1], one[2]);
        }
    }

    private static void copyBehindSixtyFourMore() {
        CHECK.sentence("Terms", "since the last COPY that was made wholly");
        int[][] cases = {{127, 0, 0}, {127, 1, 1}, {127, 2, 1}, {127, 130, 1}, {127, 131, 2},
            {128, 0, 0}, {128, 129, 0}, {128, 130, 1}, {129, 1, 1}, {129, 2, 2},
            {191, 1, 1}, {191, 130, 1}, {191, 131, 2}, {192, 129, 0}, {192, 130, 1}};
        for (int[] one : cases) {
            doneBefore(withChanges(one[0]), one[1], one[2]);
        }
    }

    private static void copySinceTheBeginning() {
        CHECK.sentence("Terms", "a loss of power does not change that");
        for (int lossAt : new int[] {1, 40, 63, 64}) {
            Pair pair = withChanges(lossAt);
            doneBefore(pair, 0, 0);
            pair.open(2);
            changeUntil(pair, 64);
            doneBefore(pair, 129, 0);
        }
        Pair pair = withChanges(40);
        for (int seed = 2; seed <= 5; seed++) {
            doneBefore(pair, 0, 0);
            pair.open(seed);
        }
        changeUntil(pair, 63);
        doneBefore(pair, 1, 1);
    }

    private static void blocksOfACopy() {
        CHECK.sentence("Terms", "a copy is made before the next one: 129 blocks");
        for (int n : new int[] {0, 1, 2, 64, 127, 128, 129}) {
            doneBefore(withChanges(64), n, 0);
        }
        for (int n : new int[] {130, 131, 132}) {
            doneBefore(withChanges(64), n, n - 129);
        }
    }

    private static void powerGoesAtABlock() {
        CHECK.sentence("Terms", "POWER may be set to go at a block: then the server has none");
        Pair pair = tree();
        pair.cut(0, 0);
        CHECK.due("server(), power is set to go", pair.server(), 2);
        CHECK.due("changes()", pair.changes(), 3);
        pair.ask(1, 0, 9, 9, 0);
        CHECK.due("server(), the change is on the way", pair.server(), 2);
        pair.move(0, Pair.ALL);
        CHECK.due("server(), the change came", pair.server(), GuardedTree.NO_POWER);
        CHECK.due("changes()", pair.changes(), GuardedTree.NO_POWER);
        CHECK.due("credit(1)", pair.credit(1), 0);
        CHECK.due("client()", pair.client(), 2);
    }

    private static void lossInACopy() {
        CHECK.sentence("Terms",
            "also when it goes at a block of a copy made for it: the copy is made anew before the next change");
        for (int n : new int[] {0, 1, 64, 127, 128}) {
            Pair pair = withChanges(64);
            doneBefore(pair, n, 0);
            pair.open(2);
            doneBefore(pair, 128, 0);
            pair.open(3);
            doneBefore(pair, 129, 0);
            pair.open(4);
            CHECK.due("the copy was whole", change(pair), 0);
            doneBefore(pair, 1, 1);
        }
        Pair pair = withChanges(64);
        doneBefore(pair, 128, 0);
        pair.open(2);
        doneBefore(pair, 131, 2);
    }

    private static void lossBehindACopy() {
        CHECK.sentence("Terms", "the last COPY that was made wholly");
        Pair pair = withChanges(64);
        doneBefore(pair, 129, 0);
        pair.open(2);
        doneBefore(pair, 1, 1);
        pair.open(3);
        changeUntil(pair, 128);
        doneBefore(pair, 129, 0);
        pair.open(4);
        doneBefore(pair, 3, 3);
    }

    private static void thatRequestIsNotDone() {
        CHECK.sentence("Terms", "is not done, and not answered");
        for (int[] r : CHANGES) {
            Pair pair = tree();
            pair.cut(0, 31);
            int id = pair.ask(r[0], r[1], r[2], r[3], r[4]);
            pair.move(0, Pair.ALL);
            CHECK.due("way(1)", pair.way(1), 0);
            CHECK.due("status", pair.status(id), GuardedTree.PENDING);
            pair.start();
            CHECK.due("way(1)", pair.way(1), 0);
            pair.open(2);
            CHECK.due("status", pair.status(id), GuardedTree.LOST);
            CHECK.due("directory 1", pair.done(0, 0, 1, 1), 1);
            CHECK.due("file 2", pair.done(0, 0, 2, 2), 2);
            CHECK.due("its size", pair.done(8, 2, 1, 0), 5);
            CHECK.due("no node more", pair.done(9, 0, 2, 0), GuardedTree.NO_NODE);
            CHECK.due("nor one in directory 1", pair.done(9, 1, 0, 0), GuardedTree.NO_NODE);
        }
    }

    private static void whatCameBehindIsNotDone() {
        CHECK.sentence("Terms", "and what came behind it, is not done, and not answered");
        Pair pair = Pair.opened(CHECK, 1);
        pair.cut(0, 0);
        pair.ask(1, 0, 1, 1, 0);
        pair.ask(8, 0, 0, 0, 0);
        pair.ask(1, 0, 2, 2, 0);
        pair.move(0, 70);
        CHECK.due("server()", pair.server(), GuardedTree.NO_POWER);
        pair.start();
        pair.move(0, Pair.ALL);
        CHECK.due("way(1)", pair.way(1), 0);
        CHECK.due("changes()", pair.changes(), 0);
        CHECK.due("server()", pair.server(), 0);
        pair.open(1);
        for (int id = 1; id <= 3; id++) {
            CHECK.due("status(" + id + ")", pair.status(id), GuardedTree.LOST);
        }
        CHECK.due("a new connection works", pair.done(1, 0, 1, 1), 1);
    }

    private static void whatWasWrittenBeforeIsDone() {
        CHECK.sentence("Terms", "what was written down before is done");
        Pair pair = tree();
        pair.put(0x41424344);
        pair.ask(4, 2, 5, 4, 0);
        pair.ask(7, 2, 1, 7, 7);
        pair.ask(1, 0, 9, 9, 0);
        pair.cut(2, 16);
        pair.move(0, Pair.ALL);
        CHECK.due("server()", pair.server(), GuardedTree.NO_POWER);
        CHECK.due("start()", pair.start(), 5);
        pair.move(1, Pair.ALL);
        CHECK.due("status(4)", pair.status(4), 4);
        CHECK.due("status(5)", pair.status(5), 2);
        CHECK.due("status(6)", pair.status(6), GuardedTree.PENDING);
        pair.open(2);
        CHECK.due("file 2 in directory 1", pair.done(0, 1, 7, 7), 2);
        CHECK.due("its bytes", pair.done(3, 2, 0, 64), 9);
        CHECK.due("the first that was written", pair.data(8, 5), 0x41);
        CHECK.due("the last", pair.data(8, 8), 0x44);
        CHECK.due("directory 3 is not there", pair.done(0, 0, 9, 9), GuardedTree.NO_NODE);
    }

    private static void repliesThatWaitVanish() {
        CHECK.sentence("Terms", "replies that wait vanish");
        Pair pair = Pair.withFile(CHECK);
        pair.askMany(6, 3);
        pair.askMany(1, CHANGE[0]);
        pair.cut(0, 0);
        pair.move(0, Pair.ALL);
        CHECK.due("server()", pair.server(), GuardedTree.NO_POWER);
        CHECK.due("way(1)", pair.way(1), 5 * 128);
        pair.move(1, Pair.ALL);
        pair.start();
        CHECK.due("the client's grant vanishes", pair.move(0, Pair.ALL), 48);
        CHECK.due("way(1)", pair.way(1), 0);
        pair.open(1);
        CHECK.due("a new connection", pair.done(8, 0, 0, 0), 1);
        CHECK.due("the file was not cut", pair.done(8, 1, 1, 0), 64);
    }

    private static void whatComesVanishes() {
        CHECK.sentence("Terms", "What came to the server vanishes until there is power and a new connection.");
        Pair pair = Pair.opened(CHECK, 1);
        pair.losePower();
        pair.ask(1, 0, 1, 1, 0);
        CHECK.due("without power", pair.move(0, 20), 20);
        pair.start();
        CHECK.due("without a connection", pair.move(0, 44), 44);
        pair.ask(1, 0, 2, 2, 0);
        CHECK.due("without a connection", pair.move(0, Pair.ALL), 64);
        CHECK.due("way(1)", pair.way(1), 0);
        CHECK.due("server()", pair.server(), 0);
        CHECK.due("changes()", pair.changes(), 0);
        pair.open(1);
        CHECK.due("a new connection", pair.done(1, 0, 3, 3), 1);
    }
}
