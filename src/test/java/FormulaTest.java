import java.math.BigInteger;
import java.util.Arrays;

/** The formulas of the Terms by their own words: the bytes on the way, and what the model takes from the library. */
final class FormulaTest {
    private static final Check CHECK = new Check("FormulaTest");
    private static final int TO_SERVER = 65, TO_CLIENT = 67;
    private static final int WORDS = 16;
    private static final String[] BLOCKS = {
        "THE FIELD of bytes: sums bit by bit, products as polynomials over bits modulo x^8 + x^4 + x^3 + x + 1.",
        "bit i of S(b) is the sum (modulo 2) of the bits i, i + 4, i + 5, i + 6, i + 7 (modulo 8) of c and bit i of"
            + " 99.",
        "is ENCIPHERED under a key of four words w0 .. w3 (32 bits each, highest byte first).",
        "The words go on to w43: wi is w(i - 4) xor x; x is w(i - 1); but where 4 divides i: w(i - 1) turned left by 8"
            + " bits, each byte by S, and its highest byte xor the (i / 4)-th of 1, 2, 4, ..",
        "First the block is xored with the bytes of w0 .. w3; then for k from 1 to 10: each byte by S; byte 4 c + r"
            + " becomes what byte 4 ((c + r) modulo 4) + r was;",
        "but for k = 10 not: of each four bytes 4 c .. 4 c + 3, a0 .. a3, byte r becomes"
            + " 2 ar + 3 a(r + 1) + a(r + 2) + a(r + 3) (numbers of a modulo 4, in the field);",
        "then it is xored with the bytes of w(4 k) .. w(4 k + 3)."};
    private static final String[] DIGESTS = {
        "parted into rows of 16 numbers w0 .. w15 (highest byte first).",
        "The STATE h0 .. h7 is at first"
            + " 6a09e667 bb67ae85 3c6ef372 a54ff53a 510e527f 9b05688c 1f83d9ab 5be0cd19 (hexadecimal).",
        "for t from 16 to 63, wt = w(t - 16) + s + w(t - 7) + r, s being ror(x, 7) xor ror(x, 18) xor shr(x, 3) of"
            + " x = w(t - 15), r being ror(x, 17) xor ror(x, 19) xor shr(x, 10) of x = w(t - 2).",
        "u = h + (ror(e, 6) xor ror(e, 11) xor ror(e, 25)) + ((e and f) xor (not e and g)) + kt + wt,",
        "v = (ror(a, 2) xor ror(a, 13) xor ror(a, 22)) + ((a and b) xor (a and c) xor (b and c)),",
        "kt being the first 32 bits behind the point of the cube root of the t-th prime (k0 of 2);",
        "then h = g, g = f, f = e, e = d + u, d = c, c = b, b = a, a = u + v; behind all each of a .. h is added to its"
            + " part of the state.",
        "The digest is the state, highest bytes first.",
        "x is the digest of the key with each byte xor 54, and the bytes behind it; the seal is the digest of the key"
            + " with each byte xor 92, and x behind it.",
        "Words come into digests highest byte first."};
    private static final String[] NUMBERS = {
        "P is 2^256 - 189, G is 2;",
        "N is p q, E is 65537, D the least number with which E D is 1 modulo (p - 1) (q - 1).",
        "the client's secret x is the digest of the seed and the word 1, as a number, the server's secret y that of the"
            + " seed and the word 2.",
        "The client's X is G^x modulo P: 32 bytes (highest first) that go to the server as they are.",
        "Y is G^y modulo P, its COMMON number X^y modulo P, its HASH the digest of P, G, N, X, Y and the common"
            + " number;",
        "S is the hash (as a number) to the power D, modulo N.",
        "Words 0 .. 3 are the key for blocks, 4 .. 7 the COUNTER, 8 .. 15 the key for seals."};
    private static final String[] PACKETS = {
        "A packet of a payload: a LENGTH, four bytes (highest first): of all that follows but the seal; one byte: how"
            + " long the PADDING is; the payload; the padding",
        "It is enciphered: its bytes are xored with those of the counter's block, enciphered;",
        "Behind it comes the seal (not enciphered) of the packet's number (four bytes, highest first) and the packet as"
            + " it was before."};

    public static void main(String[] args) {
        exchanges(BLOCKS, 1000);
        exchanges(DIGESTS, 2000);
        exchanges(NUMBERS, -3000);
        exchanges(PACKETS, Integer.MIN_VALUE);
        libraryDigests();
        libraryPackets();
        CHECK.end();
    }

    private static void exchanges(String[] sentences, int seed) {
        for (int i = 0; i < sentences.length; i++) {
            CHECK.sentence("Terms", sentences[i]);
            numbersOnTheWay(seed + i);
            requestsOnTheWay(seed + i);
            repliesOnTheWay(seed + i);
        }
    }

    private static BigInteger secret(int seed, int who) {
        return new BigInteger(1, Formulas.digest(Flow.word(seed), Flow.word(who)));
    }

    private static byte[] power(BigInteger number, BigInteger exponent) {
        return Flow.bytes(number.modPow(exponent, Flow.P));
    }

    private static byte[] common(int seed) {
        return power(new BigInteger(1, power(BigInteger.TWO, secret(seed, 1))), secret(seed, 2));
    }

    private static byte[] hash(int seed) {
        return Formulas.digest(Flow.bytes(Flow.P), Flow.bytes(BigInteger.TWO), Flow.bytes(Flow.N),
            power(BigInteger.TWO, secret(seed, 1)), power(BigInteger.TWO, secret(seed, 2)), common(seed));
    }

    private static byte[] keys(int seed, int letter) {
        byte[] low = Formulas.digest(common(seed), hash(seed), new byte[] {(byte) letter});
        byte[] high = Formulas.digest(common(seed), hash(seed), new byte[] {(byte) (letter + 1)});
        return Flow.join(low, high);
    }

    /** The packets of payloads, the first of a direction with these keys. */
    private static byte[] packets(byte[] keys, byte[]... payloads) {
        byte[] key = Arrays.copyOf(keys, 16);
        BigInteger counter = new BigInteger(1, Arrays.copyOfRange(keys, 16, 32));
        byte[] all = new byte[0];
        for (int number = 0; number < payloads.length; number++) {
            byte[] plain = Flow.plain(payloads[number]);
            byte[] row = plain.clone();
            for (int i = 0; i < row.length; i++) {
                BigInteger count = counter.add(BigInteger.valueOf(i / 16));
                row[i] ^= Formulas.enciphered(Flow.bytes(count, 16), key)[i % 16];
            }
            counter = counter.add(BigInteger.valueOf(plain.length / 16));
            byte[] seal = Formulas.seal(Arrays.copyOfRange(keys, 32, 64), Flow.word(number), plain);
            all = Flow.join(all, row, seal);
        }
        return all;
    }

    private static void look(GuardedTree tree, int dir, byte[] due) {
        int way = tree.way(dir);
        CHECK.due("way(" + dir + ")", way, due.length);
        for (int i = 0; i < due.length && i < way; i++) {
            CHECK.due("octet(" + dir + ", " + i + ")", tree.octet(dir, i), due[i] & 255);
        }
    }

    private static void numbersOnTheWay(int seed) {
        GuardedTree tree = new GuardedTree();
        tree.connect(seed);
        look(tree, 0, power(BigInteger.TWO, secret(seed, 1)));
        tree.move(0, 32);
        BigInteger proof = new BigInteger(1, hash(seed)).modPow(Flow.D, Flow.N);
        look(tree, 1, Flow.join(Flow.bytes(Flow.N), power(BigInteger.TWO, secret(seed, 2)), Flow.bytes(proof)));
        tree.move(1, 96);
        CHECK.due("client()", tree.client(), 2);
    }

    /** A file, a WRITE of 64 bytes into it and a READ of them; all are on the way. */
    private static GuardedTree asked(int seed) {
        GuardedTree tree = new GuardedTree();
        tree.connect(seed);
        tree.move(0, 32);
        tree.move(1, 96);
        for (int i = 0; i < WORDS; i++) {
            tree.put(dataWord(seed, i));
        }
        tree.ask(2, 0, seed, 7, 0);
        tree.ask(4, 1, 0, 64, -9);
        tree.ask(3, 1, 0, 64, 0);
        return tree;
    }

    private static int dataWord(int seed, int i) {
        return seed * 31 + i * 0x12345679;
    }

    private static byte[] data(int seed) {
        byte[] row = new byte[0];
        for (int i = 0; i < WORDS; i++) {
            row = Flow.join(row, Flow.word(dataWord(seed, i)));
        }
        return row;
    }

    private static void requestsOnTheWay(int seed) {
        byte[] write = Flow.join(Flow.request(2, 4, 1, 0, 64, -9), data(seed));
        look(asked(seed), 0, packets(keys(seed, TO_SERVER),
            Flow.request(1, 2, 0, seed, 7, 0), write, Flow.request(3, 3, 1, 0, 64, 0)));
    }

    private static void repliesOnTheWay(int seed) {
        GuardedTree tree = asked(seed);
        tree.move(0, Pair.ALL);
        look(tree, 1, packets(keys(seed, TO_CLIENT),
            Flow.reply(1, 1, new byte[0]), Flow.reply(2, 64, new byte[0]), Flow.reply(3, 64, data(seed))));
    }

    /** The model takes the library's digests for the document's. */
    private static void libraryDigests() {
        CHECK.sentence("Terms", "THE DIGEST of bytes, 32 bytes");
        for (int size = 0; size <= 200; size++) {
            byte[] row = new byte[size];
            for (int i = 0; i < size; i++) {
                row[i] = (byte) (size * 7 + i * 11);
            }
            CHECK.due("a digest of " + size, Arrays.equals(Formulas.digest(row), Flow.digest(row)), true);
        }
    }

    /** The model takes the library's ciphers and seals for the document's. */
    private static void libraryPackets() {
        CHECK.sentence("Terms", "THE SEAL of bytes under a key of 32 bytes");
        for (int size = 0; size <= 80; size++) {
            Flow flow = new Flow(common(size), hash(size), TO_SERVER);
            byte[] due = packets(keys(size, TO_SERVER), new byte[size]);
            CHECK.due("a payload of " + size, Arrays.equals(flow.packet(Flow.plain(new byte[size])), due), true);
        }
    }
}
