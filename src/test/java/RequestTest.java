/** Promises 6 to 9: put, ask, status, data. */
final class RequestTest {
    private static final Check CHECK = new Check("RequestTest");
    private static final int[] EXTREMES = {Integer.MIN_VALUE, Integer.MAX_VALUE};

    public static void main(String[] args) {
        putCounts();
        putRefuses();
        putStays();
        askNumbers();
        askOfAClientThatIsNotOpen();
        askWithoutCredit();
        askAtThreeThousand();
        refusedAskTakesNothing();
        writeTakesWhatWasPut();
        writeTakesZeros();
        writeOfAnyCountTakesIt();
        askOfNoKind();
        statusOfEach();
        statusLostByTheConnection();
        statusLostByTheClient();
        statusUnknown();
        dataOfAReply();
        dataOfNone();
        CHECK.end();
    }

    private static void putCounts() {
        CHECK.sentence("Promise 6", "A word more of data for a WRITE: how many there are");
        Pair pair = new Pair(CHECK);
        for (int i = 1; i <= 16; i++) {
            CHECK.due("put", pair.put(-i), i);
        }
        pair.open(1);
        pair.done(2, 0, 1, 1);
        CHECK.due("WRITE", pair.done(4, 1, 0, 64), 64);
        pair.done(3, 1, 0, 64);
        for (int i = 0; i < 64; i++) {
            CHECK.due("byte " + i, pair.data(3, i), i % 4 == 3 ? 255 - i / 4 : 255);
        }
    }

    private static void putRefuses() {
        CHECK.sentence("Promise 6", "NONE when there are 16.");
        Pair pair = Pair.withFile(CHECK);
        for (int i = 1; i <= 15; i++) {
            pair.put(i);
        }
        CHECK.due("put with 15", pair.put(16), 16);
        pair.refused("put with 16", () -> pair.put(17), GuardedTree.NONE);
        pair.refused("put with 16 once more", () -> pair.put(0), GuardedTree.NONE);
        CHECK.due("WRITE", pair.done(4, 1, 0, 64), 64);
        CHECK.due("READ", pair.done(3, 1, 0, 64), 64);
        for (int i = 3; i < 64; i += 4) {
            CHECK.due("byte " + i, pair.data(4, i), i / 4 + 1);
        }
        CHECK.due("put behind the WRITE", pair.put(0), 1);
    }

    private static void putStays() {
        CHECK.sentence("Promise 6", "(They stay till a WRITE goes out, whatever else comes.)");
        Pair pair = new Pair(CHECK);
        pair.put(1);
        CHECK.due("a WRITE that does not go out", pair.ask(4, 1, 0, 4, 0), GuardedTree.NONE);
        CHECK.due("put", pair.put(2), 2);
        pair.open(1);
        pair.close();
        pair.open(1);
        pair.done(2, 0, 1, 1);
        CHECK.due("put", pair.put(3), 3);
        pair.losePower();
        CHECK.due("put without power", pair.put(4), 4);
        pair.start();
        pair.open(2);
        pair.ask(8, 0, 0, 0, 0);
        pair.move(0, 64);
        pair.fault(1, 5);
        CHECK.due("put behind a fault", pair.put(5), 5);
        pair.open(3);
        CHECK.due("WRITE", pair.done(4, 1, 0, 20), 20);
        CHECK.due("put behind it", pair.put(9), 1);
        CHECK.due("READ", pair.done(3, 1, 0, 64), 20);
        for (int i = 0; i < 20; i++) {
            CHECK.due("byte " + i, pair.data(5, i), i % 4 == 3 ? i / 4 + 1 : 0);
        }
    }

    private static void askNumbers() {
        CHECK.sentence("Promise 7", "A request goes out: its number (1, 2, .. over all connections)");
        Pair pair = Pair.opened(CHECK, 1);
        for (int kind = 0; kind <= 9; kind++) {
            CHECK.due("ask, kind " + kind, pair.ask(kind, 0, 0, 0, 0), kind + 1);
        }
        pair.open(2);
        CHECK.due("ask on a second connection", pair.ask(0, 0, 0, 0, 0), 11);
        CHECK.due("way(0)", pair.way(0), 64);
        pair.close();
        CHECK.due("refused", pair.ask(0, 0, 0, 0, 0), GuardedTree.NONE);
        pair.open(3);
        CHECK.due("ask, the refused one does not count", pair.ask(0, 0, 0, 0, 0), 12);
    }

    private static void askOfAClientThatIsNotOpen() {
        CHECK.sentence("Promise 7", "NONE when the client is not open");
        Pair pair = new Pair(CHECK);
        pair.refused("no connection", () -> pair.ask(0, 0, 0, 0, 0), GuardedTree.NONE);
        pair.connect(1);
        pair.refused("its number is sent", () -> pair.ask(9, 0, 0, 0, 0), GuardedTree.NONE);
        pair.move(0, 32);
        pair.move(1, 95);
        pair.refused("95 bytes came", () -> pair.ask(4, 0, 0, 1, 0), GuardedTree.NONE);
        pair.move(1, 1);
        CHECK.due("open", pair.ask(8, 0, 0, 0, 0), 1);
        pair.move(0, 64);
        pair.fault(1, 5);
        pair.refused("over", () -> pair.ask(8, 0, 0, 0, 0), GuardedTree.NONE);
        pair.goOn();
    }

    private static void askWithoutCredit() {
        CHECK.sentence("Promise 7", "or has not the credit");
        Pair pair = Pair.opened(CHECK, 1);
        pair.askMany(4, 4);
        pair.ask(4, 1, 0, 12, 0);
        CHECK.due("credit(0)", pair.credit(0), 22);
        pair.refused("WRITE of 1 with 22", () -> pair.ask(4, 1, 0, 1, 0), GuardedTree.NONE);
        CHECK.due("LOOK with 22", pair.ask(0, 0, 1, 1, 0), 6);
        CHECK.due("credit(0)", pair.credit(0), 0);
        Pair other = Pair.opened(CHECK, 1);
        other.askMany(4, 4);
        other.ask(4, 1, 0, 13, 0);
        CHECK.due("credit(0)", other.credit(0), 21);
        other.refused("LOOK with 21", () -> other.ask(0, 0, 1, 1, 0), GuardedTree.NONE);
        other.refused("WRITE of 0 with 21", () -> other.ask(4, 0, 1, 0, 0), GuardedTree.NONE);
    }

    private static void askAtThreeThousand() {
        CHECK.sentence("Promise 7", "or 3000 bytes or more are on the way from it");
        for (int more : new int[] {0, 1}) {
            Pair pair = Pair.opened(CHECK, 1);
            for (int i = 0; i < 2; i++) {
                pair.askMany(18, 8);
                pair.move(0, 64);
                pair.forgePayload(1, Flow.grant(396));
                pair.move(1, 64);
            }
            pair.askMany(13, 8);
            pair.move(0, 9 - more);
            CHECK.due("way(0)", pair.way(0), 2999 + more);
            int credit = pair.credit(0);
            pair.put(3);
            CHECK.due("WRITE at " + (2999 + more), pair.ask(4, 1, 0, 1, 0), more == 0 ? 50 : GuardedTree.NONE);
            CHECK.due("credit(0)", pair.credit(0), more == 0 ? credit - 23 : credit);
            CHECK.due("way(0)", pair.way(0), more == 0 ? 2999 + 64 : 3000);
            CHECK.due("status(50)", pair.status(50), more == 0 ? GuardedTree.PENDING : GuardedTree.UNKNOWN);
            CHECK.due("put", pair.put(4), more == 0 ? 1 : 2);
        }
    }

    private static void refusedAskTakesNothing() {
        CHECK.sentence("Promise 7", "A WRITE (of whatever c) that goes out takes the data");
        Pair pair = Pair.opened(CHECK, 1);
        pair.done(2, 0, 1, 1);
        pair.put(0x0a0b0c0d);
        pair.askMany(17, 8);
        pair.refused("WRITE without the credit", () -> pair.ask(4, 1, 0, 4, 0), GuardedTree.NONE);
        pair.refused("WRITE of 0 without the credit", () -> pair.ask(4, 1, 0, 0, 0), GuardedTree.NONE);
        pair.moveAll();
        CHECK.due("put", pair.put(0x01010101), 2);
        CHECK.due("WRITE", pair.done(4, 1, 0, 8), 8);
        CHECK.due("READ", pair.done(3, 1, 0, 8), 8);
        int id = pair.model.asked();
        CHECK.due("the first byte", pair.data(id, 0), 10);
        CHECK.due("the last byte", pair.data(id, 7), 1);
    }

    private static void writeTakesWhatWasPut() {
        CHECK.sentence("Promise 7", "takes the data that was put, highest bytes first");
        int[] put = {0x01020304, 0xfffefdfc, 0x7f80a1b2};
        int[] bytes = {1, 2, 3, 4, 255, 254, 253, 252, 0x7f, 0x80, 0xa1, 0xb2};
        for (int count = 1; count <= 12; count++) {
            Pair pair = Pair.opened(CHECK, 1);
            pair.done(2, 0, 1, 1);
            for (int word : put) {
                pair.put(word);
            }
            CHECK.due("WRITE", pair.done(4, 1, 0, count), count);
            CHECK.due("put, the rest is gone too", pair.put(0), 1);
            CHECK.due("READ", pair.done(3, 1, 0, 64), count);
            for (int i = 0; i < count; i++) {
                CHECK.due("byte " + i, pair.data(3, i), bytes[i]);
            }
        }
    }

    private static void writeTakesZeros() {
        CHECK.sentence("Promise 7", "(0 for what lacks); then none is put");
        Pair pair = Pair.opened(CHECK, 1);
        pair.done(2, 0, 1, 1);
        pair.put(-1);
        CHECK.due("WRITE of 5 with a word", pair.done(4, 1, 0, 5), 5);
        CHECK.due("WRITE of 3 with none", pair.done(4, 1, 5, 3), 3);
        pair.put(-1);
        CHECK.due("WRITE of 64 with a word", pair.done(4, 1, 8, 64), 64);
        CHECK.due("READ", pair.done(3, 1, 0, 64), 64);
        for (int i = 0; i < 64; i++) {
            CHECK.due("byte " + i, pair.data(5, i), i < 4 || i >= 8 && i < 12 ? 255 : 0);
        }
    }

    private static void writeOfAnyCountTakesIt() {
        CHECK.sentence("Promise 7", "A WRITE (of whatever c) that goes out takes the data that was put");
        for (int c : new int[] {1, 0, -1, 65, Integer.MIN_VALUE, Integer.MAX_VALUE}) {
            Pair pair = Pair.opened(CHECK, 1);
            pair.done(2, 0, 1, 1);
            pair.put(5);
            pair.put(6);
            CHECK.due("WRITE of " + c, pair.ask(4, 1, 0, c, 0), 2);
            CHECK.due("way(0)", pair.way(0), 64);
            CHECK.due("credit(0)", pair.credit(0), 400 - (c == 1 ? 45 : 44));
            CHECK.due("put", pair.put(7), 1);
            pair.moveAll();
            CHECK.due("status(2)", pair.status(2), c == 1 ? 1 : GuardedTree.WRONG);
            CHECK.due("another kind takes none", pair.done(5, 1, 0, 0), c == 1 ? 1 : 0);
            CHECK.due("put", pair.put(8), 2);
        }
    }

    private static void askOfNoKind() {
        CHECK.sentence("Promise 7", "IllegalArgumentException when the kind is not 0 .. 9 (looked at first).");
        for (int kind : new int[] {-1, 10, 256, Integer.MIN_VALUE, Integer.MAX_VALUE}) {
            Pair fresh = new Pair(CHECK);
            fresh.refused("without a connection, kind " + kind, () -> fresh.ask(kind, 0, 0, 0, 0), Pair.THROWN);
            Pair pair = Pair.opened(CHECK, 1);
            pair.put(1);
            pair.refused("open, kind " + kind, () -> pair.ask(kind, 0, 0, 1, 0), Pair.THROWN);
            CHECK.due("put", pair.put(2), 2);
            pair.askMany(18, 8);
            CHECK.due("without credit, kind " + kind, pair.ask(kind, 0, 0, 1, 0), Pair.THROWN);
            pair.goOn();
        }
    }

    private static void statusOfEach() {
        CHECK.sentence("Promise 8", "What came of a request: its status; PENDING");
        Pair pair = Pair.opened(CHECK, 1);
        int id = pair.ask(8, 0, 0, 0, 0);
        CHECK.due("asked", pair.status(id), GuardedTree.PENDING);
        pair.move(0, 64);
        CHECK.due("done", pair.status(id), GuardedTree.PENDING);
        pair.move(1, 63);
        CHECK.due("a byte lacks", pair.status(id), GuardedTree.PENDING);
        pair.move(1, 1);
        CHECK.due("there", pair.status(id), 1);
        CHECK.due("a refusal", pair.done(8, 0, 3, 0), GuardedTree.WRONG);
        pair.close();
        CHECK.due("it stays", pair.status(id), 1);
        pair.open(2);
        CHECK.due("it stays", pair.status(id), 1);
    }

    private static void statusLostByTheConnection() {
        CHECK.sentence("Promise 8", "LOST when the connection ended");
        for (boolean anew : new boolean[] {false, true}) {
            Pair pair = Pair.opened(CHECK, 1);
            pair.done(8, 0, 0, 0);
            pair.ask(8, 0, 0, 0, 0);
            pair.move(0, 64);
            pair.move(1, 63);
            pair.ask(8, 0, 0, 0, 0);
            if (anew) {
                pair.connect(2);
            } else {
                pair.close();
            }
            CHECK.due("it came before", pair.status(1), 1);
            CHECK.due("a byte lacks", pair.status(2), GuardedTree.LOST);
            CHECK.due("asked", pair.status(3), GuardedTree.LOST);
            CHECK.due("data", pair.data(2, 0), Pair.THROWN);
            pair.open(3);
            CHECK.due("it stays", pair.status(3), GuardedTree.LOST);
        }
    }

    private static void statusLostByTheClient() {
        CHECK.sentence("Promise 8", "or the client had a fault, before the reply came");
        Pair pair = Pair.opened(CHECK, 1);
        pair.done(8, 0, 0, 0);
        pair.ask(8, 0, 0, 0, 0);
        pair.ask(8, 0, 1, 0, 0);
        pair.fault(0, 5);
        CHECK.due("server()", pair.server(), -5);
        CHECK.due("the server's fault loses nothing", pair.status(2), GuardedTree.PENDING);
        for (int fault = 4; fault <= 7; fault++) {
            pair.open(1);
            int id = pair.ask(8, 0, 0, 0, 0);
            pair.move(0, 64);
            int next = pair.ask(8, 0, 1, 0, 0);
            pair.fault(1, fault);
            CHECK.due("client()", pair.client(), -fault);
            CHECK.due("on the way", pair.status(id), GuardedTree.LOST);
            CHECK.due("asked", pair.status(next), GuardedTree.LOST);
            CHECK.due("it came before", pair.status(1), 1);
            CHECK.due("way(0), what was sent", pair.way(0), 64);
        }
    }

    private static void statusUnknown() {
        CHECK.sentence("Promise 8", "UNKNOWN when there was none such");
        Pair pair = new Pair(CHECK);
        for (int id : new int[] {-1, 0, 1, 2}) {
            CHECK.due("status(" + id + ") at first", pair.status(id), GuardedTree.UNKNOWN);
        }
        pair.open(1);
        pair.askMany(3, 8);
        CHECK.due("status(1)", pair.status(1), GuardedTree.PENDING);
        CHECK.due("status(3)", pair.status(3), GuardedTree.PENDING);
        for (int id : new int[] {-1, 0, 4, 5, 511, 512, 513, EXTREMES[0], EXTREMES[1]}) {
            CHECK.due("status(" + id + ")", pair.status(id), GuardedTree.UNKNOWN);
        }
    }

    private static void dataOfAReply() {
        CHECK.sentence("Promise 9", "Byte i (0 the first) that came with a request's reply.");
        Pair pair = Pair.opened(CHECK, 1);
        pair.done(2, 0, 1, 1);
        for (int i = 0; i < 16; i++) {
            pair.put(0x80818283 + 0x04040404 * i);
        }
        pair.done(4, 1, 0, 64);
        int id = pair.ask(3, 1, 0, 64, 0);
        pair.moveAll();
        for (int i = 0; i < 64; i++) {
            CHECK.due("byte " + i, pair.data(id, i), 128 + i);
        }
        int last = pair.ask(3, 1, 61, 64, 0);
        pair.moveAll();
        CHECK.due("status", pair.status(last), 3);
        CHECK.due("byte 2", pair.data(last, 2), 128 + 63);
        pair.done(5, 1, 0, 0);
        pair.close();
        CHECK.due("it stays", pair.data(last, 0), 128 + 61);
    }

    private static void dataOfNone() {
        CHECK.sentence("Promise 9", "IndexOutOfBoundsException when there is none such.");
        Pair fresh = new Pair(CHECK);
        fresh.refused("data(1, 0) at first", () -> fresh.data(1, 0), Pair.THROWN);
        Pair pair = Pair.withFile(CHECK);
        pair.done(3, 1, 0, 1);
        pair.done(3, 1, 0, 64);
        pair.done(3, 1, 64, 64);
        pair.ask(3, 1, 0, 64, 0);
        int[][] none = {{0, 0}, {-1, 0}, {1, 0}, {3, -1}, {3, 1}, {4, -1}, {4, 64}, {4, 65}, {5, 0}, {6, 0}, {7, 0},
            {EXTREMES[0], 0}, {EXTREMES[1], 0}, {4, EXTREMES[0]}, {4, EXTREMES[1]}, {4, 256}};
        for (int[] one : none) {
            CHECK.due("data(" + one[0] + ", " + one[1] + ")", pair.data(one[0], one[1]), Pair.THROWN);
        }
        CHECK.due("data(3, 0)", pair.data(3, 0), 0);
        CHECK.due("data(4, 63)", pair.data(4, 63), 0);
        pair.close();
        pair.refused("data(6, 0), lost", () -> pair.data(6, 0), Pair.THROWN);
    }
}
