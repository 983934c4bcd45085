import java.math.BigInteger;

/** Promises 1 to 5 (a new object, connect, close, client, server) and AGREEING. */
final class ConnectionTest {
    private static final Check CHECK = new Check("ConnectionTest");
    private static final BigInteger ONE = BigInteger.ONE;
    private static final BigInteger TWO = BigInteger.TWO;
    /** Seeds that are rare: with the first the proof plus N has still 256 bits, with the second the hash is N or more. */
    private static final int SMALL_PROOF_SEED = 20980, LARGE_HASH_SEED = 197984;

    public static void main(String[] args) {
        newObject();
        connectCounts();
        connectEndsWhatWas();
        connectWithoutPower();
        closeEndsWhatWas();
        closeWithoutPower();
        agreeing();
        numbersOnTheWay();
        serverFaultOne();
        clientFaults();
        proofAtN();
        ownKeysOnEachSide();
        overUntilAnotherConnection();
        CHECK.end();
    }

    private static void newObject() {
        CHECK.about("promise 1");
        Pair pair = new Pair(CHECK);
        CHECK.due("client()", pair.client(), 0);
        CHECK.due("server()", pair.server(), 0);
        CHECK.due("changes()", pair.changes(), 0);
        CHECK.due("start()", pair.start(), GuardedTree.NONE);
        CHECK.due("way(0)", pair.way(0), 0);
        CHECK.due("way(1)", pair.way(1), 0);
        CHECK.due("status(1)", pair.status(1), GuardedTree.UNKNOWN);
        pair.open(1);
        CHECK.due("the root", pair.done(8, 0, 0, 0), 1);
        CHECK.due("its directory", pair.done(8, 0, 2, 0), 0);
        CHECK.due("its first entry", pair.done(9, 0, 0, 0), GuardedTree.NO_NODE);
        for (int node = 1; node <= 64; node += 21) {
            CHECK.due("node " + node, pair.done(8, node, 0, 0), GuardedTree.NO_NODE);
        }
    }

    private static void connectCounts() {
        CHECK.about("promise 2, its count");
        Pair pair = new Pair(CHECK);
        CHECK.due("first", pair.connect(5), 1);
        CHECK.due("second, with the same seed", pair.connect(5), 2);
        pair.close();
        CHECK.due("third, behind a close", pair.connect(Integer.MIN_VALUE), 3);
        CHECK.due("client()", pair.client(), 1);
        CHECK.due("server()", pair.server(), 1);
        CHECK.due("way(0)", pair.way(0), 32);
        CHECK.due("way(1)", pair.way(1), 0);
    }

    private static void connectEndsWhatWas() {
        CHECK.about("promise 2, what was before ends");
        Pair pair = new Pair(CHECK);
        pair.open(5);
        CHECK.due("answered", pair.done(1, 0, 1, 1), 1);
        pair.ask(8, 0, 0, 0, 0);
        pair.move(0, 64);
        pair.ask(8, 0, 0, 0, 0);
        pair.move(0, 40);
        pair.connect(6);
        CHECK.due("way(0)", pair.way(0), 32);
        CHECK.due("way(1)", pair.way(1), 0);
        CHECK.due("status(1)", pair.status(1), 1);
        CHECK.due("status(2)", pair.status(2), GuardedTree.LOST);
        CHECK.due("status(3)", pair.status(3), GuardedTree.LOST);
        CHECK.due("credit(0)", pair.credit(0), 0);
        pair.move(0, 32);
        pair.move(1, 50);
        pair.connect(7);
        pair.move(0, 32);
        pair.move(1, 96);
        CHECK.due("client(), what came of an earlier answer is gone", pair.client(), 2);
        CHECK.due("the tree stays", pair.done(0, 0, 1, 1), 1);
    }

    private static void connectWithoutPower() {
        CHECK.about("promise 2, without power");
        Pair pair = new Pair(CHECK);
        pair.open(5);
        losePower(pair);
        int id = pair.ask(8, 0, 0, 0, 0);
        CHECK.due("connect", pair.connect(6), GuardedTree.NO_POWER);
        CHECK.due("client()", pair.client(), 2);
        CHECK.due("way(0)", pair.way(0), 64);
        CHECK.due("status", pair.status(id), GuardedTree.PENDING);
        pair.start();
        CHECK.due("connect, the refused one does not count", pair.connect(6), 2);
        CHECK.due("status", pair.status(id), GuardedTree.LOST);
    }

    private static void losePower(Pair pair) {
        pair.cut(0, 0);
        pair.ask(1, 0, 9, 9, 0);
        pair.move(0, Pair.ALL);
        CHECK.due("server()", pair.server(), GuardedTree.NO_POWER);
    }

    private static void closeEndsWhatWas() {
        CHECK.about("promise 3");
        Pair pair = new Pair(CHECK);
        pair.close();
        CHECK.due("client()", pair.client(), 0);
        pair.open(5);
        pair.done(1, 0, 1, 1);
        pair.ask(8, 0, 0, 0, 0);
        pair.move(0, 64);
        pair.ask(8, 0, 0, 0, 0);
        pair.put(7);
        pair.close();
        CHECK.due("client()", pair.client(), 0);
        CHECK.due("server()", pair.server(), 0);
        CHECK.due("way(0)", pair.way(0), 0);
        CHECK.due("way(1)", pair.way(1), 0);
        CHECK.due("credit(0)", pair.credit(0), 0);
        CHECK.due("credit(1)", pair.credit(1), 0);
        CHECK.due("status(1)", pair.status(1), 1);
        CHECK.due("status(2)", pair.status(2), GuardedTree.LOST);
        CHECK.due("status(3)", pair.status(3), GuardedTree.LOST);
        CHECK.due("ask", pair.ask(8, 0, 0, 0, 0), GuardedTree.NONE);
        CHECK.due("put, the first word stayed", pair.put(8), 2);
    }

    private static void closeWithoutPower() {
        CHECK.about("promise 3, without power");
        Pair pair = new Pair(CHECK);
        pair.open(5);
        losePower(pair);
        pair.close();
        CHECK.due("client()", pair.client(), 0);
        CHECK.due("server()", pair.server(), GuardedTree.NO_POWER);
        CHECK.due("status(1)", pair.status(1), GuardedTree.LOST);
        pair.start();
        CHECK.due("server()", pair.server(), 0);
    }

    private static void agreeing() {
        CHECK.about("promises 4 and 5, without alterations");
        int[] seeds = {0, 1, -1, 77, Integer.MAX_VALUE, Integer.MIN_VALUE, SMALL_PROOF_SEED, LARGE_HASH_SEED};
        for (int seed : seeds) {
            Pair pair = new Pair(CHECK);
            pair.connect(seed);
            pair.move(0, 31);
            CHECK.due("server() with 31 bytes", pair.server(), 1);
            pair.move(0, 1);
            CHECK.due("server() with 32 bytes", pair.server(), 2);
            CHECK.due("way(1)", pair.way(1), 96);
            pair.move(1, 95);
            CHECK.due("client() with 95 bytes", pair.client(), 1);
            pair.move(1, 1);
            CHECK.due("client() with 96 bytes", pair.client(), 2);
            CHECK.due("a request", pair.done(8, 0, 0, 0), 1);
        }
    }

    private static void numbersOnTheWay() {
        CHECK.about("the numbers of AGREEING");
        Pair pair = new Pair(CHECK);
        pair.connect(-4);
        for (int i = 0; i < 32; i++) {
            pair.octet(0, i);
        }
        pair.move(0, 32);
        for (int i = 0; i < 96; i++) {
            pair.octet(1, i);
        }
    }

    private static void serverFaultOne() {
        CHECK.about("promise 5, fault 1");
        BigInteger[] wrong = {BigInteger.ZERO, ONE, Flow.P.subtract(ONE), Flow.P, TWO.pow(256).subtract(ONE)};
        BigInteger[] right = {TWO, Flow.P.subtract(TWO)};
        for (BigInteger x : wrong) {
            Pair pair = new Pair(CHECK);
            pair.connect(3);
            pair.overwrite(0, Flow.bytes(x));
            pair.move(0, 32);
            CHECK.due("server(), X is " + x, pair.server(), -1);
            CHECK.due("way(1)", pair.way(1), 0);
            CHECK.due("credit(1)", pair.credit(1), 0);
        }
        for (BigInteger x : right) {
            Pair pair = new Pair(CHECK);
            pair.connect(3);
            pair.overwrite(0, Flow.bytes(x));
            pair.move(0, 32);
            CHECK.due("server(), X is " + x, pair.server(), 2);
            pair.move(1, 96);
            CHECK.due("client(), the hash is another one", pair.client(), -3);
        }
    }

    private static void clientFaults() {
        CHECK.about("promise 4, faults 1 to 3");
        BigInteger two = TWO;
        BigInteger last = Flow.P.subtract(TWO);
        client(Flow.N.add(ONE), two, ONE, -2);
        client(Flow.N.subtract(ONE), BigInteger.ZERO, ONE, -2);
        client(Flow.N, BigInteger.ZERO, ONE, -1);
        client(Flow.N, ONE, Flow.N, -1);
        client(Flow.N, Flow.P.subtract(ONE), ONE, -1);
        client(Flow.N, Flow.P, ONE, -1);
        client(Flow.N, two, ONE, -3);
        client(Flow.N, two, Flow.N, -3);
        client(Flow.N, two, proof(two), 2);
        client(Flow.N, last, proof(last), 2);
        client(Flow.N, two, proof(two).add(ONE), -3);
        client(Flow.N, last, proof(two), -3);
    }

    private static final int SEED = 11;

    /** The proof with which the client takes a number of somebody else for the server's. */
    private static BigInteger proof(BigInteger servers) {
        BigInteger x = Flow.secret(SEED, 1);
        byte[] hash = Flow.hash(TWO.modPow(x, Flow.P), servers, servers.modPow(x, Flow.P));
        return new BigInteger(1, hash).modPow(Flow.D, Flow.N);
    }

    private static void client(BigInteger n, BigInteger y, BigInteger s, int state) {
        Pair pair = new Pair(CHECK);
        pair.connect(SEED);
        pair.move(0, 32);
        pair.overwrite(1, Flow.join(Flow.bytes(n), Flow.bytes(y), Flow.bytes(s)));
        pair.move(1, 96);
        CHECK.due("client() with " + n + ", " + y + ", " + s, pair.client(), state);
        CHECK.due("server()", pair.server(), 2);
        CHECK.due("credit(0)", pair.credit(0), state == 2 ? 400 : 0);
        CHECK.due("ask", pair.ask(8, 0, 0, 0, 0), state == 2 ? 1 : GuardedTree.NONE);
    }

    private static void proofAtN() {
        CHECK.about("fault 3, the right proof and N more");
        Pair pair = new Pair(CHECK);
        pair.connect(SMALL_PROOF_SEED);
        pair.move(0, 32);
        byte[] row = pair.model.ways[1];
        BigInteger more = new BigInteger(1, java.util.Arrays.copyOfRange(row, 64, 96)).add(Flow.N);
        CHECK.due("its bits", more.bitLength(), 256);
        pair.overwrite(1, Flow.join(java.util.Arrays.copyOf(row, 64), Flow.bytes(more)));
        pair.move(1, 96);
        CHECK.due("client()", pair.client(), -3);
    }

    private static void ownKeysOnEachSide() {
        CHECK.about("keys by each side's own numbers");
        Pair pair = new Pair(CHECK);
        pair.connect(SEED);
        pair.move(0, 32);
        pair.overwrite(1, Flow.join(Flow.bytes(Flow.N), Flow.bytes(TWO), Flow.bytes(proof(TWO))));
        pair.move(1, 96);
        CHECK.due("client()", pair.client(), 2);
        pair.ask(8, 0, 0, 0, 0);
        for (int i = 0; i < 64; i++) {
            pair.octet(0, i);
        }
        pair.move(0, 16);
        CHECK.due("server()", pair.server(), -4);
    }

    private static void overUntilAnotherConnection() {
        CHECK.about("a side that is over");
        Pair pair = new Pair(CHECK);
        pair.connect(2);
        pair.overwrite(0, new byte[32]);
        pair.move(0, 32);
        CHECK.due("server()", pair.server(), -1);
        CHECK.due("client()", pair.client(), 1);
        pair.cut(0, 0);
        CHECK.due("server()", pair.server(), -1);
        pair.connect(2);
        CHECK.due("server()", pair.server(), 1);
        pair.move(0, 32);
        pair.alter(1, 0, 1);
        pair.move(1, 96);
        CHECK.due("client()", pair.client(), -2);
        pair.connect(2);
        CHECK.due("client()", pair.client(), 1);
        pair.close();
        CHECK.due("client()", pair.client(), 0);
    }
}
