/** Promises 6 to 9: put, ask, status, data. */
final class RequestTest {
    private static final Check CHECK = new Check("RequestTest");

    public static void main(String[] args) {
        putCounts();
        putStays();
        writeTakesWhatWasPut();
        writeOfAnyCountTakesIt();
        askRefuses();
        askNumbers();
        statuses();
        lostByFault();
        dataOfReads();
        dataThrows();
        CHECK.end();
    }

    private static void putCounts() {
        CHECK.about("promise 6");
        Pair pair = new Pair(CHECK);
        for (int i = 1; i <= 16; i++) {
            CHECK.due("put " + i, pair.put(-i), i);
        }
        CHECK.due("put 17", pair.put(0), GuardedTree.NONE);
        CHECK.due("put 18", pair.put(0), GuardedTree.NONE);
    }

    private static void putStays() {
        CHECK.about("promise 6, they stay");
        Pair pair = new Pair(CHECK);
        pair.put(1);
        CHECK.due("a WRITE that does not go out", pair.ask(4, 1, 0, 4, 0), GuardedTree.NONE);
        CHECK.due("put", pair.put(2), 2);
        pair.open(1);
        pair.close();
        pair.open(1);
        pair.done(2, 0, 1, 1);
        CHECK.due("put", pair.put(3), 3);
        pair.cut(0, 0);
        pair.ask(1, 0, 7, 7, 0);
        pair.move(0, Pair.ALL);
        CHECK.due("put without power", pair.put(4), 4);
        pair.start();
        pair.open(2);
        CHECK.due("WRITE", pair.done(4, 1, 0, 16), 16);
        CHECK.due("put behind it", pair.put(9), 1);
        CHECK.due("READ", pair.done(3, 1, 0, 64), 16);
        for (int i = 0; i < 16; i++) {
            CHECK.due("byte " + i, pair.data(4, i), i % 4 == 3 ? i / 4 + 1 : 0);
        }
    }

    private static void writeTakesWhatWasPut() {
        CHECK.about("promise 7, highest bytes first, 0 for what lacks");
        Pair pair = new Pair(CHECK);
        pair.open(1);
        pair.done(2, 0, 1, 1);
        pair.put(0x01020304);
        pair.put(0xfffefdfc);
        CHECK.due("WRITE", pair.done(4, 1, 0, 12), 12);
        CHECK.due("READ", pair.done(3, 1, 0, 64), 12);
        int[] bytes = {1, 2, 3, 4, 255, 254, 253, 252, 0, 0, 0, 0};
        for (int i = 0; i < 12; i++) {
            CHECK.due("byte " + i, pair.data(3, i), bytes[i]);
        }
        pair.put(0x11223344);
        pair.put(0x55667788);
        CHECK.due("WRITE of 5", pair.done(4, 1, 1, 5), 5);
        CHECK.due("WRITE with none put", pair.done(4, 1, 12, 3), 3);
        CHECK.due("READ", pair.done(3, 1, 0, 64), 15);
        int[] then = {1, 0x11, 0x22, 0x33, 0x44, 0x55, 253, 252, 0, 0, 0, 0, 0, 0, 0};
        for (int i = 0; i < 15; i++) {
            CHECK.due("byte " + i, pair.data(6, i), then[i]);
        }
    }

    private static void writeOfAnyCountTakesIt() {
        CHECK.about("promise 7, a WRITE of whatever c");
        for (int c : new int[] {0, -1, 65, Integer.MIN_VALUE, Integer.MAX_VALUE}) {
            Pair pair = new Pair(CHECK);
            pair.open(1);
            pair.done(2, 0, 1, 1);
            pair.put(5);
            pair.ask(4, 1, 0, c, 0);
            CHECK.due("way(0)", pair.way(0), 64);
            CHECK.due("credit(0)", pair.credit(0), 400 - 44);
            CHECK.due("put", pair.put(6), 1);
            pair.moveAll();
            CHECK.due("status", pair.status(2), GuardedTree.WRONG);
        }
    }

    private static void askRefuses() {
        CHECK.about("promise 7, refusals");
        Pair pair = new Pair(CHECK);
        for (int kind : new int[] {-1, 10, Integer.MIN_VALUE, Integer.MAX_VALUE}) {
            CHECK.due("kind " + kind + " before all else", pair.ask(kind, 0, 0, 0, 0), Pair.THROWN);
        }
        CHECK.due("no connection", pair.ask(0, 0, 0, 0, 0), GuardedTree.NONE);
        pair.connect(1);
        CHECK.due("not open", pair.ask(9, 0, 0, 0, 0), GuardedTree.NONE);
        pair.move(0, 32);
        pair.move(1, 96);
        for (int i = 0; i < 4; i++) {
            CHECK.due("with credit", pair.ask(4, 1, 0, 64, 0), i + 1);
        }
        CHECK.due("credit(0)", pair.credit(0), 56);
        CHECK.due("WRITE of 35", pair.ask(4, 1, 0, 35, 0), GuardedTree.NONE);
        CHECK.due("WRITE of 34", pair.ask(4, 1, 0, 34, 0), 5);
        CHECK.due("credit(0)", pair.credit(0), 0);
        CHECK.due("LOOK", pair.ask(0, 0, 0, 0, 0), GuardedTree.NONE);
        CHECK.due("kind 10", pair.ask(10, 0, 0, 0, 0), Pair.THROWN);
    }

    private static void askNumbers() {
        CHECK.about("promise 7, its number");
        Pair pair = new Pair(CHECK);
        pair.open(1);
        for (int kind = 0; kind <= 9; kind++) {
            CHECK.due("kind " + kind, pair.ask(kind, 0, 0, 0, 0), kind + 1);
        }
        pair.open(2);
        CHECK.due("over all connections", pair.ask(0, 0, 0, 0, 0), 11);
    }

    private static void statuses() {
        CHECK.about("promise 8");
        Pair pair = new Pair(CHECK);
        CHECK.due("status(0)", pair.status(0), GuardedTree.UNKNOWN);
        pair.open(1);
        int id = pair.ask(8, 0, 0, 0, 0);
        CHECK.due("status", pair.status(id), GuardedTree.PENDING);
        CHECK.due("the next", pair.status(id + 1), GuardedTree.UNKNOWN);
        CHECK.due("status(0)", pair.status(0), GuardedTree.UNKNOWN);
        CHECK.due("status(-1)", pair.status(-1), GuardedTree.UNKNOWN);
        pair.move(0, 64);
        CHECK.due("done", pair.status(id), GuardedTree.PENDING);
        pair.move(1, 63);
        CHECK.due("nearly there", pair.status(id), GuardedTree.PENDING);
        pair.move(1, 1);
        CHECK.due("there", pair.status(id), 1);
        pair.close();
        CHECK.due("stays", pair.status(id), 1);
        CHECK.due("largest", pair.status(Integer.MAX_VALUE), GuardedTree.UNKNOWN);
        CHECK.due("least", pair.status(Integer.MIN_VALUE), GuardedTree.UNKNOWN);
    }

    private static void lostByFault() {
        CHECK.about("promise 8, faults");
        Pair pair = new Pair(CHECK);
        pair.open(1);
        pair.done(8, 0, 0, 0);
        pair.ask(8, 0, 0, 0, 0);
        pair.ask(8, 0, 1, 0, 0);
        pair.alter(0, 63, 1);
        pair.move(0, Pair.ALL);
        CHECK.due("server()", pair.server(), -5);
        CHECK.due("the server's fault loses nothing", pair.status(2), GuardedTree.PENDING);
        pair.open(1);
        CHECK.due("the connection ended", pair.status(2), GuardedTree.LOST);
        pair.ask(8, 0, 0, 0, 0);
        pair.move(0, 64);
        pair.ask(8, 0, 1, 0, 0);
        pair.alter(1, 63, 1);
        pair.move(1, 64);
        CHECK.due("client()", pair.client(), -5);
        CHECK.due("the client's fault", pair.status(4), GuardedTree.LOST);
        CHECK.due("the client's fault", pair.status(5), GuardedTree.LOST);
        CHECK.due("answered before", pair.status(1), 1);
        CHECK.due("ask", pair.ask(8, 0, 0, 0, 0), GuardedTree.NONE);
        CHECK.due("what was sent is still on the way", pair.way(0), 64);
    }

    private static void dataOfReads() {
        CHECK.about("promise 9");
        Pair pair = new Pair(CHECK);
        pair.open(1);
        pair.done(2, 0, 1, 1);
        for (int i = 0; i < 16; i++) {
            pair.put(0x80818283 + 0x04040404 * i);
        }
        pair.done(4, 1, 0, 64);
        int id = pair.ask(3, 1, 0, 64, 0);
        CHECK.due("before it came", pair.data(id, 0), Pair.THROWN);
        pair.moveAll();
        for (int i = 0; i < 64; i++) {
            CHECK.due("byte " + i, pair.data(id, i), 128 + i);
        }
        CHECK.due("byte 64", pair.data(id, 64), Pair.THROWN);
        CHECK.due("byte -1", pair.data(id, -1), Pair.THROWN);
        id = pair.ask(3, 1, 61, 64, 0);
        pair.moveAll();
        CHECK.due("status", pair.status(id), 3);
        CHECK.due("byte 2", pair.data(id, 2), 128 + 63);
        CHECK.due("byte 3", pair.data(id, 3), Pair.THROWN);
        pair.close();
        CHECK.due("it stays", pair.data(id, 0), 128 + 61);
    }

    private static void dataThrows() {
        CHECK.about("promise 9, wrong inputs");
        Pair pair = new Pair(CHECK);
        CHECK.due("no request", pair.data(1, 0), Pair.THROWN);
        pair.open(1);
        pair.done(2, 0, 1, 1);
        CHECK.due("a reply without data", pair.data(1, 0), Pair.THROWN);
        pair.done(3, 1, 0, 64);
        CHECK.due("a READ of nothing", pair.data(2, 0), Pair.THROWN);
        CHECK.due("number 0", pair.data(0, 0), Pair.THROWN);
        CHECK.due("number -1", pair.data(-1, 0), Pair.THROWN);
        CHECK.due("number 3", pair.data(3, 0), Pair.THROWN);
        pair.ask(8, 0, 0, 0, 0);
        pair.close();
        CHECK.due("lost", pair.data(3, 0), Pair.THROWN);
        CHECK.due("extremes", pair.data(Integer.MIN_VALUE, Integer.MIN_VALUE), Pair.THROWN);
        CHECK.due("extremes", pair.data(Integer.MAX_VALUE, Integer.MAX_VALUE), Pair.THROWN);
    }
}
