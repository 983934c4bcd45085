import java.util.Arrays;

/** Blocks, digests and seals, PACKETS, and the faults 4 to 6 of both sides. */
final class PacketTest {
    private static final Check CHECK = new Check("PacketTest");
    /** A seed with which the lowest word of the counter of what goes to the server begins at -25. */
    private static final int WRAPPING_SEED = 35055454;
    private static final byte[] TELL_ROOT = Flow.request(1, 8, 0, 0, 0, 0);

    public static void main(String[] args) {
        zeroUnderS();
        blocksWrapAround();
        digestsWrapAround();
        digestsOfEachSize();
        bytesOfEachKind();
        numbersOfPackets();
        numbersAboveAByte();
        leastPaddingOfRequests();
        leastPaddingOfReplies();
        bytesOfPadding();
        counterCarries();
        lengthIsKnownWithSixteenBytes();
        lengthsOfPackets();
        lengthsWithTheirSign();
        longestPacket();
        sealIsKnownWithTheLastByte();
        everyByteIsSealed();
        paddingBelowFour();
        paddingAboveTheLength();
        firstFaultCounts();
        overWithAFault();
        overLosesRepliesThatWait();
        overUntilAnotherConnection();
        CHECK.end();
    }

    private static Pair opened() {
        return Pair.opened(CHECK, 21);
    }

    /** Packets in both directions, each byte of them. */
    private static void lookAtPackets(int seed) {
        Pair pair = Pair.opened(CHECK, seed);
        for (int i = 0; i < 3; i++) {
            pair.ask(8, i, i, i, i);
        }
        pair.lookAtAll(0, 0);
        pair.move(0, Pair.ALL);
        pair.lookAtAll(1, 0);
    }

    private static void zeroUnderS() {
        CHECK.sentence("Terms", "let c be that byte whose product with b is 1 (0 for 0)");
        for (int seed = 100; seed < 110; seed++) {
            lookAtPackets(seed);
        }
    }

    private static void blocksWrapAround() {
        String[] sentences = {
            "products as polynomials over bits modulo x^8 + x^4 + x^3 + x + 1",
            "of the bits i, i + 4, i + 5, i + 6, i + 7 (modulo 8) of c",
            "where 4 divides i: w(i - 1) turned left by 8 bits",
            "(each twice the one before, in the field)",
            "byte 4 c + r becomes what byte 4 ((c + r) modulo 4) + r was",
            "but for k = 10 not",
            "(numbers of a modulo 4, in the field)"};
        for (int i = 0; i < sentences.length; i++) {
            CHECK.sentence("Terms", sentences[i]);
            lookAtPackets(i);
        }
    }

    private static void digestsWrapAround() {
        String[] sentences = {
            "numbers of 32 bits (sums wrap): ror(x, n) is x turned right by n bits",
            "shr(x, n) shifted right (zeros come in)",
            "and the length in bits as 64 bits (highest byte first)",
            "the key is brought to 64 bytes by zeros"};
        for (int i = 0; i < sentences.length; i++) {
            CHECK.sentence("Terms", sentences[i]);
            lookAtPackets(-1 - i);
        }
    }

    private static void digestsOfEachSize() {
        CHECK.sentence("Terms", "as many bits 0 as bring the length to 448 modulo 512");
        for (int c : new int[] {1, 2, 18, 34, 50}) {
            Pair pair = opened();
            pair.ask(4, 1, 0, c, 0);
            pair.lookAtAll(0, 0);
        }
        for (int whole = 32; whole <= 128; whole += 16) {
            Pair pair = opened();
            pair.askMany(4, 8);
            pair.forge(0, Flow.plain(TELL_ROOT, whole - 5 - 22));
            pair.move(0, whole + 32);
            CHECK.due("server(), a packet of " + whole, pair.server(), 2);
        }
    }

    private static void bytesOfEachKind() {
        CHECK.sentence("Terms", "a REQUEST: a byte 0, its number, a byte with its kind, a, b, c, d");
        for (int kind = 0; kind <= 9; kind++) {
            Pair pair = opened();
            pair.put(0x01020304);
            pair.ask(kind, 0x11223344, -2, kind == 4 ? 7 : 0x55667788, Integer.MIN_VALUE);
            pair.lookAtAll(0, 0);
            pair.move(0, Pair.ALL);
            pair.lookAtAll(1, 0);
        }
    }

    private static void numbersOfPackets() {
        CHECK.sentence("Terms", "PACKETS of a direction are numbered 0, 1, ..");
        for (int more : new int[] {0, 1, -1, 256, 65536, 1 << 24, Integer.MIN_VALUE}) {
            for (int dir = 0; dir <= 1; dir++) {
                Pair pair = sent(dir);
                pair.lookAtAll(dir, 64);
                pair.move(dir, 64);
                Flow flow = pair.model.opener(dir);
                byte[] plain = flow.mask(Arrays.copyOf(pair.model.ways[dir], 32));
                flow.number += more;
                byte[] packet = flow.packet(plain);
                flow.number -= more;
                pair.overwrite(dir, packet);
                pair.move(dir, 64);
                CHECK.due("packet 1 with the number " + (1 + more), side(pair, dir), more == 0 ? 2 : -5);
            }
        }
    }

    private static void numbersAboveAByte() {
        CHECK.sentence("Terms", "the seal (not enciphered) of the packet's number (four bytes, highest first)");
        for (int dir = 0; dir <= 1; dir++) {
            Pair pair = opened();
            while (pair.model.opener(dir).number < 245) {
                pair.askMany(10, 8);
                pair.move(0, Pair.ALL);
                pair.move(1, Pair.ALL);
            }
            while (pair.model.opener(dir).number < 258) {
                pair.ask(8, 0, 0, 0, 0);
                pair.move(0, dir * Pair.ALL);
                pair.octet(dir, 63);
                pair.octet(dir, pair.way(dir) - 1);
                pair.move(0, Pair.ALL);
                pair.move(1, Pair.ALL);
            }
            CHECK.due("server()", pair.server(), 2);
            CHECK.due("client()", pair.client(), 2);
        }
    }

    private static void leastPaddingOfRequests() {
        CHECK.sentence("Terms",
            "the least number, 4 at least, with which the whole (with the length) is of a multiple of 16");
        int[][] sizes = {
            {0, 32}, {1, 32}, {2, 48}, {17, 48}, {18, 64}, {33, 64}, {34, 80}, {49, 80}, {50, 96}, {64, 96}};
        for (int[] size : sizes) {
            Pair pair = opened();
            pair.ask(4, 1, 0, size[0], 0);
            CHECK.due("way(0), WRITE of " + size[0], pair.way(0), size[1] + 32);
            pair.lookAtAll(0, 0);
        }
    }

    private static void leastPaddingOfReplies() {
        CHECK.sentence("Terms", "the least number, 4 at least");
        Pair file = Pair.withFile(CHECK);
        file.askMany(9, 8);
        file.ask(4, 9, 0, 2, 0);
        file.move(0, Pair.ALL);
        CHECK.due("way(1), ten replies and a grant", file.way(1), 10 * 64 + 48);
        int[][] sizes = {
            {1, 32}, {14, 32}, {15, 48}, {30, 48}, {31, 64}, {46, 64}, {47, 80}, {62, 80}, {63, 96}, {64, 96}};
        for (int[] size : sizes) {
            Pair pair = Pair.withFile(CHECK);
            pair.ask(3, 1, 0, size[0], 0);
            pair.move(0, 64);
            CHECK.due("way(1), READ of " + size[0], pair.way(1), size[1] + 32);
            pair.lookAtAll(1, 0);
        }
    }

    private static void bytesOfPadding() {
        CHECK.sentence("Terms", "the padding, bytes 0, 37, 74, .. (lowest bytes)");
        for (int c = 1; c <= 2; c++) {
            Pair pair = opened();
            pair.ask(4, 1, 0, c, 0);
            int whole = pair.way(0) - 32;
            byte[] row = new byte[whole];
            for (int i = 0; i < whole; i++) {
                row[i] = (byte) pair.octet(0, i);
            }
            byte[] plain = pair.model.opener(0).mask(row);
            int padding = c == 1 ? 4 : 19;
            CHECK.due("how long it is", plain[4], padding);
            for (int i = 0; i < padding; i++) {
                CHECK.due("byte " + i, plain[whole - padding + i] & 255, 37 * i % 256);
            }
        }
    }

    private static void counterCarries() {
        CHECK.sentence("Terms",
            "the counter (one number of 128 bits, highest word first) goes up by one for each sixteen bytes");
        Pair pair = Pair.opened(CHECK, WRAPPING_SEED);
        pair.askMany(11, 8);
        pair.move(0, Pair.ALL);
        pair.move(1, Pair.ALL);
        pair.ask(4, 0, 0, 64, 0);
        pair.lookAtAll(0, 0);
        pair.move(0, Pair.ALL);
        CHECK.due("server()", pair.server(), 2);
        CHECK.due("way(1)", pair.way(1), 64);
        pair.ask(4, 0, 0, 64, 0);
        pair.lookAtAll(0, 0);
    }

    /** A request, or the reply to one, that is next on the way. */
    private static Pair sent(int dir) {
        Pair pair = opened();
        pair.askMany(4, 8);
        if (dir == 1) {
            pair.move(0, Pair.ALL);
        }
        return pair;
    }

    private static int side(Pair pair, int dir) {
        return dir == 0 ? pair.server() : pair.client();
    }

    private static void lengthIsKnownWithSixteenBytes() {
        CHECK.sentence("Terms", "Who opens it knows the length with sixteen bytes");
        for (int dir = 0; dir <= 1; dir++) {
            Pair pair = sent(dir);
            pair.alter(dir, 3, 1);
            pair.move(dir, 15);
            CHECK.due("with 15", side(pair, dir), 2);
            pair.move(dir, 1);
            CHECK.due("with 16", side(pair, dir), -4);
        }
    }

    /** What a side says to the first sixteen bytes of a packet with another length. */
    private static void length(int dir, int length, int state) {
        Pair pair = sent(dir);
        byte[] mask = Flow.word(28 ^ length);
        for (int i = 0; i < 4; i++) {
            pair.alter(dir, i, mask[i]);
        }
        pair.move(dir, 16);
        CHECK.due("length " + length, side(pair, dir), state);
        int more = length + 36 - 16;
        if (state == 2) {
            pair.move(dir, more - 1);
            CHECK.due("length " + length + ", a byte lacks", side(pair, dir), 2);
            pair.move(dir, 1);
            CHECK.due("length " + length + ", all there", side(pair, dir), length == 28 ? 2 : -5);
        }
    }

    private static void lengthsOfPackets() {
        CHECK.sentence("Terms", "below 12, above 124, or not 12 modulo 16");
        for (int dir = 0; dir <= 1; dir++) {
            for (int length = 12; length <= 124; length += 16) {
                length(dir, length, 2);
            }
            for (int length = 0; length <= 144; length++) {
                if (length < 12 || length > 124 || length % 16 != 12) {
                    length(dir, length, -4);
                }
            }
        }
    }

    private static void lengthsWithTheirSign() {
        CHECK.sentence("Terms", "fault 4 if it (with its sign) is below 12");
        int[] wrong = {-1, -4, -20, -116, 0x010c, 0x011c, 0x0100001c, 0x8000001c, 0xffffff1c, Integer.MAX_VALUE - 3,
            Integer.MAX_VALUE, Integer.MIN_VALUE, Integer.MIN_VALUE + 12};
        for (int dir = 0; dir <= 1; dir++) {
            for (int length : wrong) {
                length(dir, length, -4);
            }
        }
    }

    private static void longestPacket() {
        CHECK.sentence("Terms", "above 124");
        Pair pair = sent(0);
        pair.forge(0, Flow.plain(TELL_ROOT, 124 - 1 - 22));
        pair.move(0, 159);
        CHECK.due("way(1) with 159", pair.way(1), 0);
        pair.move(0, 1);
        CHECK.due("server() with 160", pair.server(), 2);
        CHECK.due("way(1) with 160", pair.way(1), 64);
        pair.move(1, 64);
        CHECK.due("status(1)", pair.status(1), 1);
        pair = sent(1);
        pair.forge(1, Flow.plain(Flow.reply(1, 5, new byte[64]), 124 - 1 - 73));
        pair.move(1, 159);
        CHECK.due("status(1) with 159", pair.status(1), GuardedTree.PENDING);
        pair.move(1, 1);
        CHECK.due("status(1) with 160", pair.status(1), 5);
    }

    private static void sealIsKnownWithTheLastByte() {
        CHECK.sentence("Terms", "when all of it is there with its seal: fault 5 if the seal is another one");
        for (int dir = 0; dir <= 1; dir++) {
            for (int i = 32; i < 64; i++) {
                Pair pair = sent(dir);
                pair.alter(dir, i, 1 << i % 8);
                pair.move(dir, 63);
                CHECK.due("with 63, byte " + i + " is another one", side(pair, dir), 2);
                pair.move(dir, 1);
                CHECK.due("with 64, byte " + i + " is another one", side(pair, dir), -5);
            }
        }
    }

    private static void everyByteIsSealed() {
        CHECK.sentence("Terms", "and the packet as it was before");
        for (int dir = 0; dir <= 1; dir++) {
            for (int i = 4; i < 32; i++) {
                Pair pair = sent(dir);
                pair.alter(dir, i, 1 << i % 8);
                pair.move(dir, 64);
                CHECK.due("byte " + i + " is another one", side(pair, dir), -5);
            }
            Pair pair = sent(dir);
            pair.alter(dir, 3, 28 ^ 12);
            pair.move(dir, 48);
            CHECK.due("the length is another one", side(pair, dir), -5);
        }
    }

    /** What a side says to a packet of a length that tells a padding, a payload of zeros before it. */
    private static void padding(int dir, int length, int padding, int state) {
        Pair pair = sent(dir);
        byte[] plain = new byte[4 + length];
        plain[3] = (byte) length;
        plain[4] = (byte) padding;
        pair.forge(dir, plain);
        pair.move(dir, plain.length + 32);
        CHECK.due("length " + length + ", padding " + padding, side(pair, dir), state);
    }

    private static void paddingBelowFour() {
        CHECK.sentence("Terms", "fault 6 if the padding is below 4");
        for (int dir = 0; dir <= 1; dir++) {
            for (int padding = 0; padding <= 3; padding++) {
                padding(dir, 28, padding, -6);
                padding(dir, 12, padding, -6);
            }
            padding(dir, 28, 4, -7);
            padding(dir, 12, 4, -7);
        }
        Pair pair = sent(0);
        pair.forge(0, Flow.plain(Flow.join(TELL_ROOT, new byte[1]), 4));
        pair.move(0, 64);
        CHECK.due("server(), padding 4 of 23 bytes", pair.server(), -7);
        byte[] write = Flow.join(Flow.request(1, 4, 0, 0, 1, 0), new byte[1]);
        for (int padding = 3; padding <= 4; padding++) {
            pair = sent(0);
            byte[] plain = Flow.plain(write, 4);
            plain[4] = (byte) padding;
            pair.forge(0, plain);
            pair.move(0, 64);
            CHECK.due("server(), WRITE of 1, padding " + padding, pair.server(), padding == 4 ? 2 : -6);
        }
    }

    private static void paddingAboveTheLength() {
        CHECK.sentence("Terms", "or more than the length less 1");
        for (int dir = 0; dir <= 1; dir++) {
            for (int length = 12; length <= 124; length += 56) {
                int right = length - length % 16 + 12;
                padding(dir, right, right - 1, -7);
                padding(dir, right, right, -6);
                padding(dir, right, right + 1, -6);
                padding(dir, right, 128, -6);
                padding(dir, right, 255, -6);
            }
        }
    }

    private static void firstFaultCounts() {
        CHECK.sentence("Terms", "fault 5 if the seal is another one; fault 6 if the padding is below 4");
        for (int dir = 0; dir <= 1; dir++) {
            Pair pair = sent(dir);
            byte[] plain = new byte[32];
            plain[3] = 28;
            pair.forge(dir, plain);
            pair.alter(dir, 40, 1);
            pair.move(dir, 64);
            CHECK.due("wrong seal, padding and payload", side(pair, dir), -5);
            pair = sent(dir);
            pair.forge(dir, plain);
            pair.move(dir, 64);
            CHECK.due("wrong padding and payload", side(pair, dir), -6);
        }
    }

    private static void overWithAFault() {
        CHECK.sentence("Terms", "With a fault a side is OVER: what came to it and comes vanishes");
        for (int fault = 4; fault <= 7; fault++) {
            Pair pair = sent(0);
            pair.move(0, 64);
            pair.fault(0, fault);
            CHECK.due("server()", pair.server(), -fault);
            CHECK.due("way(1), the reply that went out before", pair.way(1), 64);
            CHECK.due("what comes", pair.move(0, Pair.ALL), 128);
            CHECK.due("way(1), no reply more", pair.way(1), 64);
            CHECK.due("credit(1)", pair.credit(1), 0);
            CHECK.due("server() stays", pair.server(), -fault);
            pair = sent(1);
            pair.move(1, 64);
            pair.fault(1, fault);
            CHECK.due("client()", pair.client(), -fault);
            CHECK.due("what comes", pair.move(1, Pair.ALL), 128);
            CHECK.due("status(1), before it", pair.status(1), GuardedTree.NO_NODE);
            CHECK.due("status(3), behind it", pair.status(3), GuardedTree.LOST);
            CHECK.due("credit(0)", pair.credit(0), 0);
            CHECK.due("ask", pair.ask(8, 0, 0, 0, 0), GuardedTree.NONE);
        }
    }

    private static void overLosesRepliesThatWait() {
        CHECK.sentence("Terms", "and replies that wait, until there is another connection");
        for (int fault = 4; fault <= 7; fault++) {
            Pair pair = Pair.withFile(CHECK);
            pair.askMany(7, 3);
            pair.move(0, 6 * 64);
            CHECK.due("way(1), five of six", pair.way(1), 5 * 128);
            pair.fault(0, fault);
            CHECK.due("server()", pair.server(), -fault);
            pair.move(1, Pair.ALL);
            CHECK.due("the client's grant vanishes", pair.move(0, Pair.ALL), 48);
            CHECK.due("way(1), nothing more", pair.way(1), 0);
            CHECK.due("status(7)", pair.status(7), 64);
            CHECK.due("status(8)", pair.status(8), GuardedTree.PENDING);
            pair.open(2);
            CHECK.due("status(8)", pair.status(8), GuardedTree.LOST);
            CHECK.due("nothing of old on a new connection", pair.done(8, 0, 0, 0), 1);
        }
    }

    private static void overUntilAnotherConnection() {
        CHECK.sentence("Terms", "until there is another connection");
        for (int dir = 0; dir <= 1; dir++) {
            Pair pair = sent(dir);
            pair.fault(dir, 5);
            pair.start();
            pair.cut(5, 5);
            CHECK.due("it stays", side(pair, dir), -5);
            pair.connect(2);
            CHECK.due("another connection", side(pair, dir), 1);
            pair.move(0, 32);
            pair.move(1, 96);
            CHECK.due("open", side(pair, dir), 2);
            CHECK.due("a request", pair.done(8, 0, 0, 0), 1);
        }
    }
}
