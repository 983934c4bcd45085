import java.math.BigInteger;
import java.util.Arrays;

/** AGREEING: the numbers that go to and fro, the faults 1 to 3, and the keys. */
final class AgreeingTest {
    private static final Check CHECK = new Check("AgreeingTest");
    private static final BigInteger ZERO = BigInteger.ZERO, ONE = BigInteger.ONE, TWO = BigInteger.TWO;
    private static final BigInteger LAST = Flow.P.subtract(TWO);
    private static final BigInteger LARGEST = TWO.pow(256).subtract(ONE);
    /** Seeds with which X, Y, the common number, S or the hash begins with a byte 0. */
    private static final int[] SHORT_NUMBER_SEEDS = {22, 204, 160, 724, 86};
    /** Seeds that are rare: with the first S plus N has still 256 bits, with the second the hash is N or more. */
    private static final int SMALL_PROOF_SEED = 20980, LARGE_HASH_SEED = 197984;
    private static final int SEED = 11;

    public static void main(String[] args) {
        numbersThatBeginWithZeros();
        seeds();
        serverHasThirtyTwoBytes();
        serversFaultOne();
        serverSendsNinetySixBytes();
        clientHasNinetySixBytes();
        clientsFaultTwo();
        clientsFaultOne();
        proofBelowN();
        proofOfTheHash();
        hashAboveN();
        firstFaultCounts();
        numberAsItWasSent();
        ownKeysOnEachSide();
        keysOfEachDirection();
        keysOfTwoDigests();
        CHECK.end();
    }

    /** Every byte of the numbers that go to and fro, and then a request and its reply. */
    private static void agree(int seed) {
        Pair pair = new Pair(CHECK);
        pair.connect(seed);
        pair.lookAtAll(0, 0);
        pair.move(0, 32);
        pair.lookAtAll(1, 0);
        pair.move(1, 96);
        CHECK.due("client(), seed " + seed, pair.client(), 2);
        pair.ask(8, 0, 0, 0, 0);
        pair.lookAtAll(0, 0);
        pair.move(0, 64);
        pair.lookAtAll(1, 0);
        pair.move(1, 64);
        CHECK.due("status(1), seed " + seed, pair.status(1), 1);
    }

    private static void numbersThatBeginWithZeros() {
        CHECK.sentence("Terms", "NUMBERS have 256 bits, eight words, the highest first.");
        for (int seed : SHORT_NUMBER_SEEDS) {
            agree(seed);
        }
    }

    private static void seeds() {
        CHECK.sentence("Terms", "A connection has a SEED, a word");
        for (int seed : new int[] {0, 1, -1, 256, 65536, Integer.MAX_VALUE, Integer.MIN_VALUE}) {
            agree(seed);
        }
    }

    private static void serverHasThirtyTwoBytes() {
        CHECK.sentence("Terms", "When the server has 32 bytes, it takes them as X");
        Pair pair = new Pair(CHECK);
        pair.connect(SEED);
        for (int i = 0; i < 31; i++) {
            pair.move(0, 1);
            CHECK.due("server() with " + (i + 1), pair.server(), 1);
        }
        CHECK.due("way(1) with 31", pair.way(1), 0);
        pair.move(0, 1);
        CHECK.due("server() with 32", pair.server(), 2);
        CHECK.due("way(1) with 32", pair.way(1), 96);
    }

    /** What the server says to a number in place of the client's. */
    private static Pair toServer(BigInteger x) {
        Pair pair = new Pair(CHECK);
        pair.connect(3);
        pair.overwrite(0, Flow.bytes(x));
        pair.move(0, 31);
        CHECK.due("server() with 31 bytes", pair.server(), 1);
        pair.move(0, 1);
        return pair;
    }

    private static void serversFaultOne() {
        CHECK.sentence("Terms", "it takes them as X: fault 1 unless that is from 2 to P - 2");
        for (BigInteger x : new BigInteger[] {ZERO, ONE, Flow.P.subtract(ONE), Flow.P, LARGEST}) {
            Pair pair = toServer(x);
            CHECK.due("server(), X is " + x, pair.server(), -1);
            CHECK.due("way(1)", pair.way(1), 0);
            CHECK.due("credit(1)", pair.credit(1), 0);
        }
        for (BigInteger x : new BigInteger[] {TWO, LAST}) {
            Pair pair = toServer(x);
            CHECK.due("server(), X is " + x, pair.server(), 2);
            CHECK.due("way(1)", pair.way(1), 96);
            pair.lookAtAll(1, 0);
            CHECK.due("credit(1)", pair.credit(1), 400);
        }
    }

    private static void serverSendsNinetySixBytes() {
        CHECK.sentence("Terms", "N, Y, S, 96 bytes, go to the client as they are, and the server is OPEN.");
        Pair pair = new Pair(CHECK);
        pair.connect(-4);
        pair.move(0, 32);
        CHECK.due("server()", pair.server(), 2);
        CHECK.due("way(1)", pair.way(1), 96);
        byte[] n = Flow.bytes(Flow.N);
        for (int i = 0; i < 32; i++) {
            CHECK.due("octet(1, " + i + ") of N", pair.octet(1, i), n[i] & 255);
        }
        pair.lookAtAll(1, 32);
    }

    private static void clientHasNinetySixBytes() {
        CHECK.sentence("Terms", "When the client has 96 bytes");
        Pair pair = new Pair(CHECK);
        pair.connect(SEED);
        pair.move(0, 32);
        pair.alter(1, 0, 1);
        pair.move(1, 95);
        CHECK.due("client() with 95, the first is wrong", pair.client(), 1);
        pair.move(1, 1);
        CHECK.due("client() with 96", pair.client(), -2);
        pair.connect(SEED);
        pair.move(0, 32);
        pair.move(1, 95);
        CHECK.due("client() with 95", pair.client(), 1);
        CHECK.due("credit(0) with 95", pair.credit(0), 0);
        pair.move(1, 1);
        CHECK.due("client() with 96", pair.client(), 2);
        CHECK.due("credit(0) with 96", pair.credit(0), 400);
    }

    /** The proof with which the client takes a number of somebody else for the server's. */
    private static BigInteger proof(BigInteger servers) {
        BigInteger x = Flow.secret(SEED, 1);
        byte[] hash = Flow.hash(TWO.modPow(x, Flow.P), servers, servers.modPow(x, Flow.P));
        return new BigInteger(1, hash).modPow(Flow.D, Flow.N);
    }

    /** What the client says to three numbers in place of the server's. */
    private static void toClient(BigInteger n, BigInteger y, BigInteger s, int state) {
        Pair pair = new Pair(CHECK);
        pair.connect(SEED);
        pair.move(0, 32);
        pair.overwrite(1, Flow.join(Flow.bytes(n), Flow.bytes(y), Flow.bytes(s)));
        pair.move(1, 96);
        CHECK.due("client() with " + n + ", " + y + ", " + s, pair.client(), state);
        CHECK.due("server()", pair.server(), 2);
        CHECK.due("credit(0)", pair.credit(0), state == 2 ? 400 : 0);
        CHECK.due("ask", pair.ask(8, 0, 0, 0, 0), state == 2 ? 1 : GuardedTree.NONE);
    }

    private static void clientsFaultTwo() {
        CHECK.sentence("Terms", "fault 2 unless the first number is N");
        toClient(Flow.N, TWO, proof(TWO), 2);
        toClient(Flow.N.add(ONE), TWO, proof(TWO), -2);
        toClient(Flow.N.subtract(ONE), TWO, proof(TWO), -2);
        toClient(ZERO, TWO, proof(TWO), -2);
        for (int i = 0; i < 32; i++) {
            toClient(Flow.N.flipBit(8 * i + i % 8), TWO, proof(TWO), -2);
        }
    }

    private static void clientsFaultOne() {
        CHECK.sentence("Terms", "fault 1 unless Y is from 2 to P - 2");
        for (BigInteger y : new BigInteger[] {ZERO, ONE, Flow.P.subtract(ONE), Flow.P, LARGEST}) {
            toClient(Flow.N, y, proof(y), -1);
        }
        for (BigInteger y : new BigInteger[] {TWO, LAST}) {
            toClient(Flow.N, y, proof(y), 2);
        }
    }

    private static void proofBelowN() {
        CHECK.sentence("Terms", "fault 3 unless S is below N");
        toClient(Flow.N, TWO, Flow.N, -3);
        toClient(Flow.N, TWO, LARGEST, -3);
        for (boolean more : new boolean[] {false, true}) {
            Pair pair = new Pair(CHECK);
            pair.connect(SMALL_PROOF_SEED);
            pair.move(0, 32);
            byte[] row = pair.model.ways[1];
            BigInteger right = new BigInteger(1, Arrays.copyOfRange(row, 64, 96));
            CHECK.due("bits of S and N more", right.add(Flow.N).bitLength(), 256);
            if (more) {
                pair.overwrite(1, Flow.join(Arrays.copyOf(row, 64), Flow.bytes(right.add(Flow.N))));
            }
            pair.move(1, 96);
            CHECK.due("client(), the right S" + (more ? " and N more" : ""), pair.client(), more ? -3 : 2);
        }
    }

    private static void proofOfTheHash() {
        CHECK.sentence("Terms", "and S^E modulo N is the hash modulo N");
        BigInteger right = proof(LAST);
        toClient(Flow.N, LAST, right, 2);
        toClient(Flow.N, LAST, right.add(ONE), -3);
        toClient(Flow.N, LAST, right.subtract(ONE), -3);
        toClient(Flow.N, LAST, Flow.N.subtract(right), -3);
        toClient(Flow.N, LAST, proof(TWO), -3);
        toClient(Flow.N, LAST, ZERO, -3);
        toClient(Flow.N, LAST, ONE, -3);
        toClient(Flow.N, LAST, Flow.N.subtract(ONE), -3);
    }

    private static void hashAboveN() {
        CHECK.sentence("Terms", "is the hash modulo N");
        BigInteger secret = Flow.secret(LARGE_HASH_SEED, 2);
        BigInteger clients = TWO.modPow(Flow.secret(LARGE_HASH_SEED, 1), Flow.P);
        byte[] hash = Flow.hash(clients, TWO.modPow(secret, Flow.P), clients.modPow(secret, Flow.P));
        CHECK.due("the hash is N or more", new BigInteger(1, hash).compareTo(Flow.N) >= 0, true);
        agree(LARGE_HASH_SEED);
    }

    private static void firstFaultCounts() {
        CHECK.sentence("Terms", "fault 2 unless the first number is N; fault 1 unless Y is from 2 to P - 2;");
        toClient(Flow.N.subtract(ONE), ONE, Flow.N, -2);
        toClient(Flow.N.subtract(ONE), TWO, ONE, -2);
        toClient(Flow.N, ONE, Flow.N, -1);
        toClient(Flow.N, ZERO, ONE, -1);
    }

    private static void numberAsItWasSent() {
        CHECK.sentence("Terms", "its hash that of P, G, N, X (as it sent it), Y and that");
        Pair pair = toServer(TWO);
        pair.move(1, 96);
        CHECK.due("client(), the server had another X", pair.client(), -3);
    }

    private static void ownKeysOnEachSide() {
        CHECK.sentence("Terms", "each side reckons them by its own common number and hash");
        Pair pair = new Pair(CHECK);
        pair.connect(SEED);
        pair.move(0, 32);
        pair.overwrite(1, Flow.join(Flow.bytes(Flow.N), Flow.bytes(TWO), Flow.bytes(proof(TWO))));
        pair.move(1, 96);
        CHECK.due("client()", pair.client(), 2);
        pair.ask(8, 0, 0, 0, 0);
        pair.lookAtAll(0, 0);
        pair.move(0, 16);
        CHECK.due("server()", pair.server(), -4);
    }

    private static void keysOfEachDirection() {
        CHECK.sentence("Terms", "L is 65 for what goes to the server, 67 for what goes to the client");
        Pair pair = Pair.opened(CHECK, SEED);
        pair.ask(8, 0, 0, 0, 0);
        pair.lookAtAll(0, 0);
        pair.move(0, 64);
        pair.lookAtAll(1, 0);
    }

    private static void keysOfTwoDigests() {
        CHECK.sentence("Terms",
            "the digest of the common number, the hash and a byte L, and that of the same with L + 1");
        Pair pair = Pair.opened(CHECK, 5);
        pair.ask(4, 1, 0, 64, 0);
        pair.lookAtAll(0, 0);
        pair.move(0, 128);
        pair.lookAtAll(1, 0);
        CHECK.due("way(1)", pair.way(1), 64);
    }
}
