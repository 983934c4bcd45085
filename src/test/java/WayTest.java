/** Promises 11 to 14: way, octet, alter, move. */
final class WayTest {
    private static final Check CHECK = new Check("WayTest");
    private static final int[] NO_DIRECTIONS = {-1, 2, Integer.MIN_VALUE, Integer.MAX_VALUE};

    public static void main(String[] args) {
        ways();
        octets();
        alterations();
        alteredTwice();
        moves();
        movesByteByByte();
        vanishing();
        CHECK.end();
    }

    private static void ways() {
        CHECK.about("promise 11");
        Pair pair = new Pair(CHECK);
        for (int dir : NO_DIRECTIONS) {
            CHECK.due("way(" + dir + ")", pair.way(dir), Pair.THROWN);
        }
        pair.connect(1);
        CHECK.due("way(0)", pair.way(0), 32);
        pair.move(0, 10);
        CHECK.due("way(0)", pair.way(0), 22);
        CHECK.due("way(1)", pair.way(1), 0);
        pair.move(0, 22);
        CHECK.due("way(1)", pair.way(1), 96);
        pair.move(1, 96);
        pair.ask(8, 0, 0, 0, 0);
        pair.ask(4, 0, 0, 64, 0);
        CHECK.due("way(0)", pair.way(0), 64 + 128);
    }

    private static void octets() {
        CHECK.about("promise 12");
        Pair pair = new Pair(CHECK);
        for (int dir : NO_DIRECTIONS) {
            CHECK.due("octet(" + dir + ", 0)", pair.octet(dir, 0), Pair.THROWN);
        }
        CHECK.due("octet(0, 0) of none", pair.octet(0, 0), Pair.THROWN);
        pair.open(3);
        pair.ask(8, 0, 0, 0, 0);
        for (int i = 0; i < 64; i++) {
            pair.octet(0, i);
        }
        CHECK.due("octet(0, 64)", pair.octet(0, 64), Pair.THROWN);
        CHECK.due("octet(0, -1)", pair.octet(0, -1), Pair.THROWN);
        CHECK.due("octet(1, 0)", pair.octet(1, 0), Pair.THROWN);
        int second = pair.octet(0, 1);
        pair.move(0, 1);
        CHECK.due("the first one is gone", pair.octet(0, 0), second);
        pair.move(0, 63);
        for (int i = 0; i < 64; i++) {
            pair.octet(1, i);
        }
        CHECK.due("extremes", pair.octet(1, Integer.MAX_VALUE), Pair.THROWN);
        CHECK.due("extremes", pair.octet(1, Integer.MIN_VALUE), Pair.THROWN);
    }

    private static void alterations() {
        CHECK.about("promise 13");
        Pair pair = new Pair(CHECK);
        for (int dir : NO_DIRECTIONS) {
            CHECK.due("alter(" + dir + ", 0, 1)", pair.alter(dir, 0, 1), Pair.THROWN);
        }
        CHECK.due("alter of none", pair.alter(0, 0, 1), Pair.THROWN);
        pair.connect(3);
        CHECK.due("alter(0, 32, 1)", pair.alter(0, 32, 1), Pair.THROWN);
        CHECK.due("alter(0, -1, 1)", pair.alter(0, -1, 1), Pair.THROWN);
        CHECK.due("alter(1, 0, 1)", pair.alter(1, 0, 1), Pair.THROWN);
        int before = pair.octet(0, 31);
        pair.alter(0, 31, 0x12345681);
        CHECK.due("by the lowest byte alone", pair.octet(0, 31), before ^ 0x81);
        pair.alter(0, 31, -256);
        CHECK.due("by nothing", pair.octet(0, 31), before ^ 0x81);
        pair.alter(0, 31, -1);
        CHECK.due("by all bits", pair.octet(0, 31), before ^ 0x7e);
        pair.move(0, 32);
        before = pair.octet(1, 5);
        pair.alter(1, 5, 255);
        CHECK.due("to the client", pair.octet(1, 5), before ^ 255);
    }

    private static void alteredTwice() {
        CHECK.about("promise 13, altered and altered back");
        Pair pair = new Pair(CHECK);
        pair.open(3);
        pair.ask(8, 0, 0, 0, 0);
        for (int i = 0; i < 64; i++) {
            pair.alter(0, i, i + 1);
        }
        for (int i = 0; i < 64; i++) {
            pair.alter(0, i, i + 1);
        }
        pair.moveAll();
        CHECK.due("status(1)", pair.status(1), 1);
    }

    private static void moves() {
        CHECK.about("promise 14");
        Pair pair = new Pair(CHECK);
        for (int dir : NO_DIRECTIONS) {
            CHECK.due("move(" + dir + ", 0)", pair.move(dir, 0), Pair.THROWN);
        }
        CHECK.due("of none", pair.move(0, 5), 0);
        pair.connect(3);
        CHECK.due("none", pair.move(0, 0), 0);
        CHECK.due("below 0", pair.move(0, -1), 0);
        CHECK.due("least", pair.move(0, Integer.MIN_VALUE), 0);
        CHECK.due("some", pair.move(0, 5), 5);
        CHECK.due("all, there are less", pair.move(0, Integer.MAX_VALUE), 27);
        CHECK.due("server()", pair.server(), 2);
        CHECK.due("to the client", pair.move(1, 97), 96);
        CHECK.due("client()", pair.client(), 2);
    }

    private static void movesByteByByte() {
        CHECK.about("promise 14, byte by byte");
        Pair pair = new Pair(CHECK);
        pair.open(3);
        pair.ask(2, 0, 1, 1, 0);
        pair.ask(8, 1, 0, 0, 0);
        for (int i = 0; i < 128; i++) {
            pair.move(0, 1);
            CHECK.due("way(1) behind " + (i + 1), pair.way(1), (i + 1) / 64 * 64);
        }
        for (int i = 0; i < 64; i++) {
            CHECK.due("status(1) behind " + i, pair.status(1), GuardedTree.PENDING);
            pair.move(1, 1);
        }
        CHECK.due("status(1)", pair.status(1), 1);
        CHECK.due("status(2)", pair.status(2), GuardedTree.PENDING);
    }

    private static void vanishing() {
        CHECK.about("promise 14, what vanishes");
        Pair pair = new Pair(CHECK);
        pair.open(3);
        pair.ask(1, 0, 1, 1, 0);
        pair.ask(1, 0, 2, 2, 0);
        pair.alter(0, 0, 128);
        CHECK.due("to a side that is over", pair.move(0, Pair.ALL), 128);
        CHECK.due("server()", pair.server(), -4);
        CHECK.due("changes()", pair.changes(), 0);
        pair.ask(1, 0, 3, 3, 0);
        CHECK.due("later too", pair.move(0, Pair.ALL), 64);
        CHECK.due("server()", pair.server(), -4);

        pair.open(3);
        pair.cut(0, 31);
        pair.ask(1, 0, 1, 1, 0);
        pair.ask(1, 0, 2, 2, 0);
        CHECK.due("without power", pair.move(0, Pair.ALL), 128);
        pair.ask(1, 0, 3, 3, 0);
        CHECK.due("without power", pair.move(0, 20), 20);
        pair.start();
        CHECK.due("without a connection", pair.move(0, Pair.ALL), 44);
        CHECK.due("server()", pair.server(), 0);
        CHECK.due("changes()", pair.changes(), 0);

        pair.connect(3);
        pair.move(0, 32);
        pair.alter(1, 3, 1);
        pair.move(1, 96);
        CHECK.due("client()", pair.client(), -2);
        CHECK.due("way(1)", pair.way(1), 0);
    }
}
