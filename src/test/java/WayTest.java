/** Promises 11 to 14: way, octet, alter, move. */
final class WayTest {
    private static final Check CHECK = new Check("WayTest");
    private static final int LEAST = Integer.MIN_VALUE, LARGEST = Integer.MAX_VALUE;
    private static final int[] NO_DIRECTIONS = {-1, 2, 3, LEAST, LARGEST};

    public static void main(String[] args) {
        waysInEachDirection();
        waysInNoDirection();
        octets();
        octetsThatAreNot();
        altersTheLowestByte();
        alteredTwice();
        alterationsThatAreNot();
        movesTheFirst();
        movesAllIfThereAreLess();
        movesNoneBelowZero();
        movesInNoDirection();
        doesWhatItCan();
        vanishesIfItWaitsForNone();
        vanishesIfItIsOver();
        vanishesWithoutPower();
        CHECK.end();
    }

    /** A pair with a request on the way to the server and a reply on the way to the client. */
    private static Pair busy() {
        Pair pair = Pair.opened(CHECK, 3);
        pair.askMany(1, 8);
        pair.move(0, 64);
        pair.askMany(1, 8);
        return pair;
    }

    private static void waysInEachDirection() {
        CHECK.sentence("Promise 11", "How many bytes are on the way to the server (dir = 0), to the client (1).");
        Pair pair = new Pair(CHECK);
        CHECK.due("way(0)", pair.way(0), 0);
        CHECK.due("way(1)", pair.way(1), 0);
        pair.connect(1);
        CHECK.due("way(0)", pair.way(0), 32);
        pair.move(0, 10);
        CHECK.due("way(0)", pair.way(0), 22);
        CHECK.due("way(1)", pair.way(1), 0);
        pair.move(0, 22);
        CHECK.due("way(0)", pair.way(0), 0);
        CHECK.due("way(1)", pair.way(1), 96);
        pair.move(1, 96);
        CHECK.due("way(1)", pair.way(1), 0);
        pair.ask(8, 0, 0, 0, 0);
        pair.ask(4, 0, 0, 64, 0);
        CHECK.due("way(0)", pair.way(0), 64 + 128);
    }

    private static void waysInNoDirection() {
        CHECK.sentence("Promise 11", "IndexOutOfBoundsException.");
        Pair pair = busy();
        for (int dir : NO_DIRECTIONS) {
            CHECK.due("way(" + dir + ")", pair.way(dir), Pair.THROWN);
        }
        pair.refused("way(2)", () -> pair.way(2), Pair.THROWN);
        CHECK.due("way(0)", pair.way(0), 64);
        CHECK.due("way(1)", pair.way(1), 64);
    }

    private static void octets() {
        CHECK.sentence("Promise 12", "Byte i (0 the first) on the way.");
        Pair pair = busy();
        pair.lookAtAll(0, 0);
        pair.lookAtAll(1, 0);
        int second = pair.octet(0, 1);
        int last = pair.octet(0, 63);
        pair.move(0, 1);
        CHECK.due("octet(0, 0), the first one is gone", pair.octet(0, 0), second);
        CHECK.due("octet(0, 62)", pair.octet(0, 62), last);
        pair.move(0, 62);
        CHECK.due("octet(0, 0)", pair.octet(0, 0), last);
    }

    private static void octetsThatAreNot() {
        CHECK.sentence("Promise 12", "IndexOutOfBoundsException.");
        Pair fresh = new Pair(CHECK);
        CHECK.due("octet(0, 0) of none", fresh.octet(0, 0), Pair.THROWN);
        CHECK.due("octet(1, 0) of none", fresh.octet(1, 0), Pair.THROWN);
        Pair pair = busy();
        for (int dir : NO_DIRECTIONS) {
            CHECK.due("octet(" + dir + ", 0)", pair.octet(dir, 0), Pair.THROWN);
        }
        for (int i : new int[] {-1, 64, 65, 3000, LEAST, LARGEST}) {
            CHECK.due("octet(0, " + i + ")", pair.octet(0, i), Pair.THROWN);
            CHECK.due("octet(1, " + i + ")", pair.octet(1, i), Pair.THROWN);
        }
        pair.move(0, 1);
        CHECK.due("octet(0, 63), there are 63", pair.octet(0, 63), Pair.THROWN);
        CHECK.due("octet(0, 62)", pair.octet(0, 62) >= 0, true);
        pair.refused("octet(1, 64)", () -> pair.octet(1, 64), Pair.THROWN);
    }

    private static void altersTheLowestByte() {
        CHECK.sentence("Promise 13", "Byte i on the way is altered: xored with a mask's lowest byte.");
        for (int dir = 0; dir <= 1; dir++) {
            Pair pair = busy();
            for (int i : new int[] {0, 1, 62, 63}) {
                int before = pair.octet(dir, i);
                pair.alter(dir, i, 0x12345681);
                CHECK.due("by the lowest byte alone", pair.octet(dir, i), before ^ 0x81);
                pair.alter(dir, i, 256);
                pair.alter(dir, i, -256);
                pair.alter(dir, i, LEAST);
                CHECK.due("by nothing", pair.octet(dir, i), before ^ 0x81);
                pair.alter(dir, i, -1);
                CHECK.due("by all bits", pair.octet(dir, i), before ^ 0x7e);
                pair.alter(dir, i, 255);
                CHECK.due("and back", pair.octet(dir, i), before ^ 0x81);
            }
            pair.lookAtAll(0, 0);
            pair.lookAtAll(1, 0);
        }
    }

    private static void alteredTwice() {
        CHECK.sentence("Promise 13", "xored");
        Pair pair = Pair.opened(CHECK, 3);
        pair.ask(8, 0, 0, 0, 0);
        for (int round = 0; round < 2; round++) {
            for (int i = 0; i < 64; i++) {
                pair.alter(0, i, i + 1);
            }
        }
        pair.moveAll();
        CHECK.due("status(1)", pair.status(1), 1);
    }

    private static void alterationsThatAreNot() {
        CHECK.sentence("Promise 13", "IndexOutOfBoundsException.");
        Pair fresh = new Pair(CHECK);
        fresh.refused("alter(0, 0, 1) of none", () -> fresh.alter(0, 0, 1), Pair.THROWN);
        fresh.refused("alter(1, 0, 1) of none", () -> fresh.alter(1, 0, 1), Pair.THROWN);
        for (int dir : NO_DIRECTIONS) {
            Pair pair = busy();
            pair.refused("alter(" + dir + ", 0, 1)", () -> pair.alter(dir, 0, 1), Pair.THROWN);
        }
        for (int i : new int[] {-1, 64, 65, LEAST, LARGEST}) {
            Pair pair = busy();
            CHECK.due("alter(0, " + i + ", 1)", pair.alter(0, i, 1), Pair.THROWN);
            pair.refused("alter(1, " + i + ", 1)", () -> pair.alter(1, i, 1), Pair.THROWN);
            pair.goOn();
        }
    }

    private static void movesTheFirst() {
        CHECK.sentence("Promise 14", "The first n bytes on the way");
        Pair pair = new Pair(CHECK);
        pair.connect(3);
        CHECK.due("move(0, 5)", pair.move(0, 5), 5);
        CHECK.due("way(0)", pair.way(0), 27);
        pair.lookAtAll(0, 0);
        CHECK.due("move(0, 26)", pair.move(0, 26), 26);
        CHECK.due("server()", pair.server(), 1);
        CHECK.due("move(0, 1)", pair.move(0, 1), 1);
        CHECK.due("server()", pair.server(), 2);
        CHECK.due("move(1, 96)", pair.move(1, 96), 96);
        CHECK.due("client()", pair.client(), 2);
    }

    private static void movesAllIfThereAreLess() {
        CHECK.sentence("Promise 14", "all, if there are less");
        Pair pair = new Pair(CHECK);
        CHECK.due("move(0, 5) of none", pair.move(0, 5), 0);
        CHECK.due("move(1, 5) of none", pair.move(1, 5), 0);
        pair.connect(3);
        CHECK.due("move(0, 33)", pair.move(0, 33), 32);
        CHECK.due("move(0, 1)", pair.move(0, 1), 0);
        CHECK.due("move(1, largest)", pair.move(1, LARGEST), 96);
        CHECK.due("way(1)", pair.way(1), 0);
        CHECK.due("client()", pair.client(), 2);
    }

    private static void movesNoneBelowZero() {
        CHECK.sentence("Promise 14", "none below 0");
        for (int n : new int[] {0, -1, -64, LEAST}) {
            Pair pair = busy();
            pair.refused("move(0, " + n + ")", () -> pair.move(0, n), 0);
            Pair other = busy();
            other.refused("move(1, " + n + ")", () -> other.move(1, n), 0);
        }
    }

    private static void movesInNoDirection() {
        CHECK.sentence("Promise 14", "IndexOutOfBoundsException.");
        for (int dir : NO_DIRECTIONS) {
            Pair pair = busy();
            CHECK.due("move(" + dir + ", 0)", pair.move(dir, 0), Pair.THROWN);
            CHECK.due("move(" + dir + ", -1)", pair.move(dir, -1), Pair.THROWN);
            pair.refused("move(" + dir + ", 64)", () -> pair.move(dir, 64), Pair.THROWN);
        }
    }

    private static void doesWhatItCan() {
        CHECK.sentence("Promise 14", "come to that side, which does what it can with them");
        Pair pair = Pair.opened(CHECK, 3);
        pair.ask(2, 0, 1, 1, 0);
        pair.ask(8, 1, 0, 0, 0);
        for (int i = 1; i <= 128; i++) {
            pair.move(0, 1);
            CHECK.due("way(1) behind " + i, pair.way(1), i / 64 * 64);
        }
        for (int i = 0; i < 64; i++) {
            CHECK.due("status(1) behind " + i, pair.status(1), GuardedTree.PENDING);
            pair.move(1, 1);
        }
        CHECK.due("status(1)", pair.status(1), 1);
        CHECK.due("status(2)", pair.status(2), GuardedTree.PENDING);
    }

    private static void vanishesIfItWaitsForNone() {
        CHECK.sentence("Promise 14", "(they vanish if it waits for none");
        Pair pair = Pair.opened(CHECK, 3);
        pair.losePower();
        pair.start();
        pair.askMany(2, 1);
        CHECK.due("move(0, 100)", pair.move(0, 100), 100);
        CHECK.due("move(0, all)", pair.move(0, Pair.ALL), 28);
        CHECK.due("server()", pair.server(), 0);
        CHECK.due("way(1)", pair.way(1), 0);
        CHECK.due("changes()", pair.changes(), 0);
        pair.open(3);
        CHECK.due("a request", pair.done(8, 0, 0, 0), 1);
    }

    private static void vanishesIfItIsOver() {
        CHECK.sentence("Promise 14", "is over");
        Pair pair = Pair.opened(CHECK, 3);
        pair.askMany(3, 8);
        pair.alter(0, 0, 128);
        CHECK.due("move(0, 128), the fault is in the first 16", pair.move(0, 128), 128);
        CHECK.due("server()", pair.server(), -4);
        CHECK.due("move(0, all)", pair.move(0, Pair.ALL), 64);
        CHECK.due("way(1)", pair.way(1), 0);
        pair.connect(3);
        pair.move(0, 32);
        pair.alter(1, 3, 1);
        CHECK.due("move(1, 96)", pair.move(1, 96), 96);
        CHECK.due("client()", pair.client(), -2);
        pair = busy();
        pair.move(0, 64);
        pair.fault(1, 4);
        CHECK.due("client()", pair.client(), -4);
        CHECK.due("move(1, all)", pair.move(1, Pair.ALL), 64);
        CHECK.due("status(2)", pair.status(2), GuardedTree.LOST);
    }

    private static void vanishesWithoutPower() {
        CHECK.sentence("Promise 14", "or has no power): how many");
        Pair pair = Pair.opened(CHECK, 3);
        pair.cut(0, 31);
        pair.ask(1, 0, 1, 1, 0);
        pair.ask(1, 0, 2, 2, 0);
        CHECK.due("move(0, all), power goes at the first", pair.move(0, Pair.ALL), 128);
        pair.ask(1, 0, 3, 3, 0);
        CHECK.due("move(0, 20)", pair.move(0, 20), 20);
        CHECK.due("move(0, all)", pair.move(0, Pair.ALL), 44);
        CHECK.due("way(1)", pair.way(1), 0);
        CHECK.due("server()", pair.server(), GuardedTree.NO_POWER);
        CHECK.due("start()", pair.start(), 0);
    }
}
