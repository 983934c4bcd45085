/** Promises 1 to 5: a new object, connect, close, client, server. */
final class ConnectionTest {
    private static final Check CHECK = new Check("ConnectionTest");

    public static void main(String[] args) {
        newObject();
        newObjectsTree();
        connectCounts();
        connectEndsWhatWas();
        connectLosesWhatDidNotCome();
        connectForgetsWhatCameInPart();
        connectSendsThirtyTwoBytes();
        connectWithoutPower();
        closeEndsWhatWas();
        closeWithoutConnection();
        closeWithoutPower();
        clientIsHowFar();
        clientsFaults();
        serverIsHowFar();
        serversFaults();
        serverWithoutPower();
        CHECK.end();
    }

    private static void newObject() {
        CHECK.sentence("Promise 1", "there is power, and no connection");
        Pair pair = new Pair(CHECK);
        CHECK.due("client()", pair.client(), 0);
        CHECK.due("server()", pair.server(), 0);
        CHECK.due("changes()", pair.changes(), 0);
        CHECK.due("start()", pair.start(), GuardedTree.NONE);
        CHECK.due("way(0)", pair.way(0), 0);
        CHECK.due("way(1)", pair.way(1), 0);
        CHECK.due("credit(0)", pair.credit(0), 0);
        CHECK.due("credit(1)", pair.credit(1), 0);
        CHECK.due("status(1)", pair.status(1), GuardedTree.UNKNOWN);
        CHECK.due("put(0), the first word", pair.put(0), 1);
    }

    private static void newObjectsTree() {
        CHECK.sentence("Promise 1", "A tree of the root alone");
        Pair pair = Pair.opened(CHECK, 1);
        CHECK.due("what node 0 is", pair.done(8, 0, 0, 0), 1);
        CHECK.due("its directory", pair.done(8, 0, 2, 0), 0);
        CHECK.due("its first entry", pair.done(9, 0, 0, 0), GuardedTree.NO_NODE);
        for (int node = 1; node <= 63; node++) {
            CHECK.due("node " + node, pair.done(8, node, 0, 0), GuardedTree.NO_NODE);
        }
        CHECK.due("the first new one", pair.done(1, 0, 1, 1), 1);
    }

    private static void connectCounts() {
        CHECK.sentence("Promise 2", "A new connection with a seed: how many there were with it.");
        Pair pair = new Pair(CHECK);
        CHECK.due("the first", pair.connect(5), 1);
        CHECK.due("the second, with the same seed", pair.connect(5), 2);
        pair.close();
        CHECK.due("the third, behind a close", pair.connect(Integer.MIN_VALUE), 3);
        CHECK.due("client()", pair.client(), 1);
        CHECK.due("server()", pair.server(), 1);
        pair.overwrite(0, new byte[32]);
        pair.move(0, 32);
        CHECK.due("server()", pair.server(), -1);
        CHECK.due("the fourth, behind a fault", pair.connect(0), 4);
    }

    /** A pair with a request that is answered, one whose reply is on the way, and one that came in part. */
    private static Pair busy() {
        Pair pair = Pair.opened(CHECK, 5);
        CHECK.due("answered", pair.done(1, 0, 1, 1), 1);
        pair.ask(8, 0, 0, 0, 0);
        pair.move(0, 64);
        pair.ask(8, 0, 0, 0, 0);
        pair.move(0, 40);
        return pair;
    }

    private static void connectEndsWhatWas() {
        CHECK.sentence("Promise 2", "What was before ends: nothing is on the way");
        Pair pair = busy();
        CHECK.due("way(0) before", pair.way(0), 24);
        CHECK.due("way(1) before", pair.way(1), 64);
        pair.connect(6);
        CHECK.due("way(0), the client's new number", pair.way(0), 32);
        CHECK.due("way(1)", pair.way(1), 0);
        CHECK.due("client()", pair.client(), 1);
        CHECK.due("server()", pair.server(), 1);
        CHECK.due("credit(0)", pair.credit(0), 0);
        CHECK.due("credit(1)", pair.credit(1), 0);
        CHECK.due("ask", pair.ask(8, 0, 0, 0, 0), GuardedTree.NONE);
    }

    private static void connectLosesWhatDidNotCome() {
        CHECK.sentence("Promise 2", "replies that did not come are LOST");
        Pair pair = busy();
        CHECK.due("status(3) before", pair.status(3), GuardedTree.PENDING);
        pair.connect(6);
        CHECK.due("status(1), that came", pair.status(1), 1);
        CHECK.due("status(2), on the way", pair.status(2), GuardedTree.LOST);
        CHECK.due("status(3), asked", pair.status(3), GuardedTree.LOST);
        CHECK.due("status(4), never asked", pair.status(4), GuardedTree.UNKNOWN);
        pair.move(0, 32);
        pair.move(1, 96);
        CHECK.due("the tree stays", pair.done(0, 0, 1, 1), 1);
    }

    private static void connectForgetsWhatCameInPart() {
        CHECK.sentence("Promise 2", "What was before ends");
        Pair pair = busy();
        pair.connect(6);
        pair.move(0, 31);
        pair.connect(7);
        pair.move(0, 31);
        CHECK.due("server(), 31 bytes came twice", pair.server(), 1);
        pair.move(0, 1);
        CHECK.due("server()", pair.server(), 2);
        pair.move(1, 95);
        pair.connect(8);
        pair.move(0, 32);
        pair.move(1, 95);
        CHECK.due("client(), 95 bytes came twice", pair.client(), 1);
        pair.move(1, 1);
        CHECK.due("client()", pair.client(), 2);
        CHECK.due("a request", pair.done(8, 0, 0, 0), 1);
    }

    private static void connectSendsThirtyTwoBytes() {
        CHECK.sentence("Promise 2", "The client's 32 bytes are on the way.");
        Pair pair = new Pair(CHECK);
        pair.connect(3);
        CHECK.due("way(0)", pair.way(0), 32);
        CHECK.due("way(1)", pair.way(1), 0);
        pair.lookAtAll(0, 0);
        CHECK.due("octet(0, 32)", pair.octet(0, 32), Pair.THROWN);
    }

    private static void connectWithoutPower() {
        CHECK.sentence("Promise 2", "NO_POWER (nothing changes).");
        Pair pair = Pair.opened(CHECK, 5);
        pair.losePower();
        int id = pair.ask(8, 0, 0, 0, 0);
        pair.refused("connect(6)", () -> pair.connect(6), GuardedTree.NO_POWER);
        CHECK.due("client()", pair.client(), 2);
        CHECK.due("status", pair.status(id), GuardedTree.PENDING);
        pair.start();
        CHECK.due("connect(6), the refused one does not count", pair.connect(6), 2);
        pair.goOn();
    }

    private static void closeEndsWhatWas() {
        CHECK.sentence("Promise 3", "The connection ends, as with a new one, but there is none");
        Pair pair = busy();
        pair.put(7);
        pair.close();
        CHECK.due("client()", pair.client(), 0);
        CHECK.due("server()", pair.server(), 0);
        CHECK.due("way(0)", pair.way(0), 0);
        CHECK.due("way(1)", pair.way(1), 0);
        CHECK.due("credit(0)", pair.credit(0), 0);
        CHECK.due("credit(1)", pair.credit(1), 0);
        CHECK.due("status(1)", pair.status(1), 1);
        CHECK.due("status(2)", pair.status(2), GuardedTree.LOST);
        CHECK.due("status(3)", pair.status(3), GuardedTree.LOST);
        CHECK.due("ask", pair.ask(8, 0, 0, 0, 0), GuardedTree.NONE);
        CHECK.due("put, the first word stayed", pair.put(8), 2);
        CHECK.due("connect", pair.connect(9), 2);
        pair.goOn();
    }

    private static void closeWithoutConnection() {
        CHECK.sentence("Promise 3", "but there is none");
        Pair pair = new Pair(CHECK);
        pair.close();
        pair.close();
        CHECK.due("client()", pair.client(), 0);
        CHECK.due("server()", pair.server(), 0);
        CHECK.due("connect, the first", pair.connect(1), 1);
        pair.move(0, 32);
        pair.move(1, 40);
        pair.close();
        CHECK.due("client(), it was agreeing", pair.client(), 0);
        CHECK.due("server(), it was open", pair.server(), 0);
    }

    private static void closeWithoutPower() {
        CHECK.sentence("Promise 3", "(also without power)");
        Pair pair = Pair.opened(CHECK, 5);
        pair.losePower();
        pair.ask(8, 0, 0, 0, 0);
        pair.close();
        CHECK.due("client()", pair.client(), 0);
        CHECK.due("server()", pair.server(), GuardedTree.NO_POWER);
        CHECK.due("way(0)", pair.way(0), 0);
        CHECK.due("status(1)", pair.status(1), GuardedTree.LOST);
        CHECK.due("status(2)", pair.status(2), GuardedTree.LOST);
        CHECK.due("start()", pair.start(), 0);
        CHECK.due("server()", pair.server(), 0);
        CHECK.due("client()", pair.client(), 0);
    }

    private static void clientIsHowFar() {
        CHECK.sentence("Promise 4", "0 no connection, 1 its number is sent, 2 open");
        Pair pair = new Pair(CHECK);
        CHECK.due("client()", pair.client(), 0);
        pair.connect(1);
        CHECK.due("client()", pair.client(), 1);
        pair.move(0, 32);
        CHECK.due("client(), the server is open", pair.client(), 1);
        pair.move(1, 96);
        CHECK.due("client()", pair.client(), 2);
        pair.close();
        CHECK.due("client()", pair.client(), 0);
    }

    private static void clientsFaults() {
        CHECK.sentence("Promise 4", "minus its fault");
        for (int fault = 1; fault <= 3; fault++) {
            Pair pair = new Pair(CHECK);
            pair.connect(1);
            pair.move(0, 32);
            if (fault == 1) {
                pair.overwrite(1, Flow.join(Flow.bytes(Flow.N), new byte[32]));
            } else {
                pair.alter(1, fault == 2 ? 31 : 95, 1);
            }
            pair.move(1, 96);
            CHECK.due("client()", pair.client(), -fault);
            CHECK.due("server()", pair.server(), 2);
        }
        for (int fault = 4; fault <= 7; fault++) {
            Pair pair = Pair.opened(CHECK, 1);
            pair.ask(8, 0, 0, 0, 0);
            pair.move(0, 64);
            pair.fault(1, fault);
            CHECK.due("client()", pair.client(), -fault);
            CHECK.due("server()", pair.server(), 2);
            pair.connect(2);
            CHECK.due("client(), another connection", pair.client(), 1);
        }
    }

    private static void serverIsHowFar() {
        CHECK.sentence("Promise 5", "0 no connection, 1 it waits for a number, 2 open");
        Pair pair = new Pair(CHECK);
        CHECK.due("server()", pair.server(), 0);
        pair.connect(1);
        CHECK.due("server()", pair.server(), 1);
        pair.move(0, 32);
        CHECK.due("server()", pair.server(), 2);
        pair.close();
        CHECK.due("server()", pair.server(), 0);
    }

    private static void serversFaults() {
        CHECK.sentence("Promise 5", "minus its fault");
        Pair pair = new Pair(CHECK);
        pair.connect(1);
        pair.overwrite(0, new byte[32]);
        pair.move(0, 32);
        CHECK.due("server()", pair.server(), -1);
        CHECK.due("client()", pair.client(), 1);
        for (int fault = 4; fault <= 7; fault++) {
            pair = Pair.opened(CHECK, 1);
            pair.ask(8, 0, 0, 0, 0);
            pair.fault(0, fault);
            CHECK.due("server()", pair.server(), -fault);
            CHECK.due("client()", pair.client(), 2);
            pair.connect(2);
            CHECK.due("server(), another connection", pair.server(), 1);
        }
    }

    private static void serverWithoutPower() {
        CHECK.sentence("Promise 5", "NO_POWER");
        Pair pair = Pair.opened(CHECK, 1);
        pair.cut(0, 0);
        CHECK.due("server(), power will go", pair.server(), 2);
        pair.losePower();
        CHECK.due("server()", pair.server(), GuardedTree.NO_POWER);
        pair.close();
        CHECK.due("server(), behind a close", pair.server(), GuardedTree.NO_POWER);
        pair.start();
        CHECK.due("server()", pair.server(), 0);
    }
}
