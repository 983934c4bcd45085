/** Promises 15 to 17: cut, start, changes. */
final class PowerTest {
    private static final Check CHECK = new Check("PowerTest");

    public static void main(String[] args) {
        cutAtTheNthBlock();
        cutAtTheThousandthBlock();
        cutWithEachTear();
        cutsInACopyWithEachTear();
        powerStays();
        whatWasSetBefore();
        cutStaysThroughConnections();
        cutRefusesNumbers();
        cutRefusesTears();
        cutWithoutPower();
        refusedCutLeavesWhatWasSet();
        startGivesPower();
        startLeavesNoConnection();
        startLeavesTheClient();
        startWritesNothing();
        startTellsChanges();
        startWithPower();
        changesAreCounted();
        changesWithoutPower();
        CHECK.end();
    }

    /** So many new directories asked for, all of which come to the server. */
    private static void changes(Pair pair, int first, int count) {
        for (int i = 0; i < count; i++) {
            pair.ask(1, 0, first + i, 1, 0);
        }
        pair.move(0, Pair.ALL);
    }

    private static void cutAtTheNthBlock() {
        CHECK.sentence("Promise 15", "Power goes at the n-th block that is written from now on (0 the next one)");
        for (int n = 0; n <= 4; n++) {
            Pair pair = Pair.opened(CHECK, 1);
            changes(pair, 1, 2);
            CHECK.due("cut(" + n + ", 5)", pair.cut(n, 5), true);
            changes(pair, 3, n);
            CHECK.due("server() behind " + n, pair.server(), 2);
            CHECK.due("changes() behind " + n, pair.changes(), 2 + n);
            changes(pair, 9, 1);
            CHECK.due("server() behind " + (n + 1), pair.server(), GuardedTree.NO_POWER);
            CHECK.due("start()", pair.start(), 2 + n);
            pair.open(2);
            for (int i = 1; i <= 2 + n; i++) {
                CHECK.due("directory " + i, pair.done(0, 0, i, 1), i);
            }
            CHECK.due("the last one", pair.done(0, 0, 9, 1), GuardedTree.NO_NODE);
        }
    }

    /** With five copies of 129 blocks, block 1000 (the first is 0) is that of change 356. */
    private static void cutAtTheThousandthBlock() {
        CHECK.sentence("Promise 15", "n is not -1 .. 1000");
        Pair pair = Pair.opened(CHECK, 1);
        CHECK.due("cut(1000, 0)", pair.cut(1000, 0), true);
        pair.ask(2, 0, 1, 1, 0);
        while (pair.model.changes() >= 0 && pair.model.changes() < 340) {
            pair.askMany(10, 5);
            pair.move(0, Pair.ALL);
            pair.move(1, Pair.ALL);
        }
        pair.move(0, Pair.ALL);
        while (pair.model.changes() >= 0 && pair.model.changes() < 355) {
            pair.askMany(1, 5);
            pair.moveAll();
        }
        CHECK.due("changes()", pair.changes(), 355);
        pair.askMany(1, 5);
        pair.moveAll();
        CHECK.due("server()", pair.server(), GuardedTree.NO_POWER);
        CHECK.due("start()", pair.start(), 355);
    }

    private static void cutWithEachTear() {
        CHECK.sentence("Promise 15", "when the first so many of its 32 words are the new ones");
        for (int tear = 0; tear <= 31; tear++) {
            Pair pair = Pair.opened(CHECK, 1);
            CHECK.due("cut(0, " + tear + ")", pair.cut(0, tear), true);
            changes(pair, 1, 1);
            CHECK.due("server()", pair.server(), GuardedTree.NO_POWER);
            CHECK.due("way(1)", pair.way(1), 0);
            CHECK.due("start()", pair.start(), 0);
            pair.open(2);
            CHECK.due("it was not done", pair.done(0, 0, 1, 1), GuardedTree.NO_NODE);
            CHECK.due("another one is", pair.done(1, 0, 2, 2), 1);
        }
    }

    private static void cutsInACopyWithEachTear() {
        CHECK.sentence("Promise 15", "when the first so many of its 32 words are the new ones");
        for (int tear = 0; tear <= 31; tear++) {
            Pair pair = Pair.opened(CHECK, 1);
            pair.done(2, 0, 1, 1);
            for (int i = 0; i < 7; i++) {
                pair.askMany(9, 5);
                pair.moveAll();
            }
            CHECK.due("changes()", pair.changes(), 64);
            pair.cut(tear * 4, tear);
            pair.askMany(1, 6);
            pair.move(0, Pair.ALL);
            CHECK.due("start(), torn in a copy", pair.start(), 64);
            pair.open(2);
            CHECK.due("the file is there", pair.done(8, 1, 0, 0), 2);
        }
    }

    private static void powerStays() {
        CHECK.sentence("Promise 15", "it stays, if n is -1");
        Pair pair = Pair.opened(CHECK, 1);
        CHECK.due("cut(0, 0)", pair.cut(0, 0), true);
        CHECK.due("cut(-1, 0)", pair.cut(-1, 0), true);
        changes(pair, 1, 9);
        CHECK.due("server()", pair.server(), 2);
        CHECK.due("changes()", pair.changes(), 9);
        CHECK.due("cut(-1, 31)", pair.cut(-1, 31), true);
        pair.move(1, Pair.ALL);
        changes(pair, 10, 9);
        CHECK.due("changes()", pair.changes(), 18);
    }

    private static void whatWasSetBefore() {
        CHECK.sentence("Promise 15", "What was set before does not count.");
        Pair pair = Pair.opened(CHECK, 1);
        pair.cut(0, 0);
        pair.cut(1, 0);
        changes(pair, 1, 1);
        CHECK.due("changes()", pair.changes(), 1);
        pair.cut(1, 0);
        changes(pair, 2, 1);
        CHECK.due("changes()", pair.changes(), 2);
        pair.cut(2, 0);
        changes(pair, 3, 2);
        CHECK.due("changes()", pair.changes(), 4);
        pair.cut(1000, 0);
        pair.cut(0, 0);
        changes(pair, 5, 1);
        CHECK.due("server()", pair.server(), GuardedTree.NO_POWER);
        CHECK.due("start()", pair.start(), 4);
    }

    private static void cutStaysThroughConnections() {
        CHECK.sentence("Promise 15", "from now on");
        Pair pair = new Pair(CHECK);
        CHECK.due("cut(1, 0) without a connection", pair.cut(1, 0), true);
        pair.open(1);
        changes(pair, 1, 1);
        CHECK.due("changes()", pair.changes(), 1);
        pair.close();
        pair.open(2);
        changes(pair, 2, 1);
        CHECK.due("server()", pair.server(), GuardedTree.NO_POWER);
        CHECK.due("start()", pair.start(), 1);
    }

    private static int cut(Pair pair, int n, int tear) {
        return pair.cut(n, tear) ? 1 : 0;
    }

    private static void cutRefusesNumbers() {
        CHECK.sentence("Promise 15", "False, and nothing, when there is no power, n is not -1 .. 1000");
        for (int n : new int[] {-2, 1001, Integer.MIN_VALUE, Integer.MAX_VALUE}) {
            Pair pair = Pair.opened(CHECK, 1);
            pair.refused("cut(" + n + ", 0)", () -> cut(pair, n, 0), 0);
            pair.refused("cut(" + n + ", 31)", () -> cut(pair, n, 31), 0);
            changes(pair, 1, 9);
            CHECK.due("changes()", pair.changes(), 9);
        }
        for (int n : new int[] {-1, 0, 1, 999, 1000}) {
            CHECK.due("cut(" + n + ", 0)", new Pair(CHECK).cut(n, 0), true);
        }
    }

    private static void cutRefusesTears() {
        CHECK.sentence("Promise 15", "or tear not 0 .. 31");
        for (int tear : new int[] {-1, 32, Integer.MIN_VALUE, Integer.MAX_VALUE}) {
            Pair pair = Pair.opened(CHECK, 1);
            pair.refused("cut(0, " + tear + ")", () -> cut(pair, 0, tear), 0);
            pair.refused("cut(-1, " + tear + ")", () -> cut(pair, -1, tear), 0);
            changes(pair, 1, 9);
            CHECK.due("changes()", pair.changes(), 9);
        }
        for (int tear = 0; tear <= 31; tear++) {
            CHECK.due("cut(0, " + tear + ")", new Pair(CHECK).cut(0, tear), true);
        }
    }

    private static void cutWithoutPower() {
        CHECK.sentence("Promise 15", "False, and nothing, when there is no power");
        Pair pair = Pair.opened(CHECK, 1);
        pair.losePower();
        pair.refused("cut(0, 0)", () -> cut(pair, 0, 0), 0);
        pair.refused("cut(-1, 0)", () -> cut(pair, -1, 0), 0);
        pair.refused("cut(1000, 31)", () -> cut(pair, 1000, 31), 0);
        pair.start();
        pair.open(2);
        changes(pair, 1, 9);
        CHECK.due("changes(), it set nothing", pair.changes(), 9);
    }

    private static void refusedCutLeavesWhatWasSet() {
        CHECK.sentence("Promise 15", "False, and nothing");
        int[][] refused = {{-2, 0}, {1001, 0}, {-1, 32}, {-1, -1}, {5, 32}};
        for (int[] one : refused) {
            Pair pair = Pair.opened(CHECK, 1);
            pair.cut(1, 0);
            CHECK.due("cut", pair.cut(one[0], one[1]), false);
            changes(pair, 1, 1);
            CHECK.due("changes()", pair.changes(), 1);
            changes(pair, 2, 1);
            CHECK.due("server()", pair.server(), GuardedTree.NO_POWER);
        }
    }

    private static void startGivesPower() {
        CHECK.sentence("Promise 16", "There is power again (and it stays)");
        Pair pair = Pair.opened(CHECK, 1);
        pair.losePower();
        CHECK.due("changes()", pair.changes(), GuardedTree.NO_POWER);
        CHECK.due("start()", pair.start(), 0);
        CHECK.due("changes()", pair.changes(), 0);
        pair.open(2);
        for (int i = 0; i < 4; i++) {
            changes(pair, 1 + 9 * i, 9);
            pair.move(1, Pair.ALL);
        }
        CHECK.due("server()", pair.server(), 2);
        CHECK.due("changes()", pair.changes(), 36);
    }

    private static void startLeavesNoConnection() {
        CHECK.sentence("Promise 16", "the server has no connection");
        Pair pair = Pair.opened(CHECK, 1);
        pair.losePower();
        pair.start();
        CHECK.due("server()", pair.server(), 0);
        CHECK.due("credit(1)", pair.credit(1), 0);
        pair.ask(8, 0, 0, 0, 0);
        CHECK.due("what comes vanishes", pair.move(0, Pair.ALL), 64);
        CHECK.due("way(1)", pair.way(1), 0);
        CHECK.due("connect", pair.connect(2), 2);
        CHECK.due("server()", pair.server(), 1);
    }

    private static void startLeavesTheClient() {
        CHECK.sentence("Promise 16", "(the client is as it was, and so is what is on the way)");
        Pair pair = Pair.opened(CHECK, 1);
        pair.ask(8, 0, 0, 0, 0);
        pair.move(0, Pair.ALL);
        pair.losePower();
        pair.move(1, 20);
        pair.ask(8, 0, 1, 0, 0);
        CHECK.due("start()", pair.start(), 0);
        CHECK.due("client()", pair.client(), 2);
        CHECK.due("credit(0)", pair.credit(0), 400 - 3 * 22);
        CHECK.due("way(0)", pair.way(0), 64);
        CHECK.due("way(1)", pair.way(1), 44);
        pair.lookAtAll(0, 0);
        pair.lookAtAll(1, 0);
        pair.move(1, 44);
        CHECK.due("status(1), the rest of its reply came", pair.status(1), 1);
        CHECK.due("status(2), that was not done", pair.status(2), GuardedTree.PENDING);
        CHECK.due("ask", pair.ask(8, 0, 0, 0, 0), 4);
    }

    private static void startWritesNothing() {
        CHECK.sentence("Promise 16", "nothing is written");
        Pair pair = Pair.opened(CHECK, 1);
        pair.done(2, 0, 1, 1);
        for (int i = 0; i < 7; i++) {
            pair.askMany(9, 5);
            pair.moveAll();
        }
        for (int seed = 2; seed <= 4; seed++) {
            pair.cut(128, 0);
            pair.askMany(1, 5);
            pair.move(0, Pair.ALL);
            CHECK.due("start(), the copy was not made by the last one", pair.start(), 64);
            CHECK.due("changes()", pair.changes(), 64);
            pair.open(seed);
        }
        pair.cut(130, 0);
        CHECK.due("a copy and a change", pair.done(5, 1, 0, 0), 0);
        CHECK.due("changes()", pair.changes(), 65);
    }

    private static void startTellsChanges() {
        CHECK.sentence("Promise 16",
            "how many changes are written down, all since the beginning, and done (as changes() tells)");
        Pair pair = Pair.opened(CHECK, 1);
        int want = 0;
        for (int round = 0; round < 5; round++) {
            changes(pair, 1 + 5 * round, round);
            want += round;
            pair.losePower();
            CHECK.due("start()", pair.start(), want);
            CHECK.due("changes()", pair.changes(), want);
            pair.open(round);
        }
        for (int node = 1; node <= want; node++) {
            CHECK.due("node " + node, pair.done(8, node, 0, 0), 1);
        }
        CHECK.due("no node more", pair.done(8, want + 1, 0, 0), GuardedTree.NO_NODE);
    }

    private static void startWithPower() {
        CHECK.sentence("Promise 16", "NONE when there is power.");
        Pair fresh = new Pair(CHECK);
        fresh.refused("start() of a new object", fresh::start, GuardedTree.NONE);
        Pair pair = Pair.opened(CHECK, 1);
        pair.done(2, 0, 1, 1);
        pair.ask(8, 0, 0, 0, 0);
        pair.cut(1, 0);
        pair.refused("start()", pair::start, GuardedTree.NONE);
        changes(pair, 2, 1);
        CHECK.due("changes()", pair.changes(), 2);
        changes(pair, 3, 1);
        CHECK.due("server(), what was set stays", pair.server(), GuardedTree.NO_POWER);
        CHECK.due("start()", pair.start(), 2);
        pair.refused("start() once more", pair::start, GuardedTree.NONE);
        pair.goOn();
    }

    private static void changesAreCounted() {
        CHECK.sentence("Promise 17", "How many changes were written down");
        Pair pair = new Pair(CHECK);
        CHECK.due("changes() at first", pair.changes(), 0);
        pair.open(1);
        int[][] requests = {
            {1, 0, 1, 1, 0, 1}, {2, 0, 2, 2, 0, 1}, {0, 0, 1, 1, 0, 0}, {3, 2, 0, 1, 0, 0}, {4, 2, 0, 5, 0, 1},
            {5, 2, 5, 0, 0, 1}, {5, 2, 0, 0, 0, 1}, {7, 2, 1, 2, 2, 1}, {8, 1, 0, 0, 0, 0}, {9, 0, 0, 0, 0, 0},
            {6, 1, 0, 0, 0, 0}, {6, 2, 0, 0, 0, 1}, {6, 1, 0, 0, 0, 1}, {1, 0, 0, 0, 0, 0}, {4, 2, 0, 5, 0, 0}};
        int want = 0;
        for (int[] r : requests) {
            pair.ask(r[0], r[1], r[2], r[3], r[4]);
            CHECK.due("changes() before kind " + r[0] + " came", pair.changes(), want);
            pair.move(0, Pair.ALL);
            want += r[5];
            CHECK.due("changes() behind kind " + r[0], pair.changes(), want);
            pair.move(1, Pair.ALL);
        }
        pair.close();
        CHECK.due("changes() without a connection", pair.changes(), want);
        pair.connect(3);
        CHECK.due("changes() of a new connection", pair.changes(), want);
    }

    private static void changesWithoutPower() {
        CHECK.sentence("Promise 17", "NO_POWER");
        Pair pair = Pair.opened(CHECK, 1);
        changes(pair, 1, 3);
        CHECK.due("changes()", pair.changes(), 3);
        pair.losePower();
        pair.refused("changes()", pair::changes, GuardedTree.NO_POWER);
        pair.close();
        CHECK.due("changes() behind a close", pair.changes(), GuardedTree.NO_POWER);
        pair.start();
        CHECK.due("changes()", pair.changes(), 3);
    }
}
