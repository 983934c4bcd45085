import java.util.Arrays;

/** PACKETS, PAYLOADS, and the faults 4 to 7 of both sides (with promises 4 and 5). */
final class PacketTest {
    private static final Check CHECK = new Check("PacketTest");
    /** A seed with which the lowest word of the counter of what goes to the server begins at -25. */
    private static final int WRAPPING_SEED = 35055454;

    public static void main(String[] args) {
        everyRequest();
        everySize();
        packetsAreNumbered();
        counterCarries();
        everyByteIsSealed();
        lengths();
        lengthIsKnownWithSixteenBytes();
        paddings();
        requestsThatAreRight();
        requestsThatAreNot();
        requestsBeyondTheCredit();
        repliesThatAreRight();
        repliesThatAreNot();
        grants();
        longPackets();
        CHECK.end();
    }

    private static Pair opened() {
        Pair pair = new Pair(CHECK);
        pair.open(21);
        return pair;
    }

    private static void lookAtAll(Pair pair, int dir) {
        int count = pair.way(dir);
        for (int i = 0; i < count; i++) {
            pair.octet(dir, i);
        }
    }

    private static void everyRequest() {
        CHECK.about("bytes of requests of each kind");
        for (int kind = 0; kind <= 9; kind++) {
            Pair pair = opened();
            pair.put(0x01020304);
            pair.ask(kind, 0x11223344, -2, kind == 4 ? 7 : 0x55667788, Integer.MIN_VALUE);
            lookAtAll(pair, 0);
            pair.move(0, Pair.ALL);
            lookAtAll(pair, 1);
        }
    }

    private static void everySize() {
        CHECK.about("sizes of packets");
        Pair pair = opened();
        pair.done(2, 0, 1, 1);
        for (int c = 1; c <= 64; c++) {
            pair.move(0, Pair.ALL);
            pair.ask(4, 1, 0, c, 0);
            CHECK.due("WRITE of " + c, pair.move(0, Pair.ALL), 32 + (5 + 22 + c + 4 + 15) / 16 * 16);
            pair.move(1, Pair.ALL);
        }
        pair = opened();
        pair.done(2, 0, 1, 1);
        pair.done(4, 1, 0, 64);
        for (int c = 1; c <= 64; c++) {
            pair.ask(3, 1, 0, c, 0);
            pair.move(0, 64);
            int grant = pair.way(1) % 16;
            CHECK.due("whole blocks", grant, 0);
            pair.move(1, Pair.ALL);
            pair.move(0, Pair.ALL);
        }
    }

    private static void packetsAreNumbered() {
        CHECK.about("the same request once more has other bytes");
        Pair pair = opened();
        pair.ask(8, 0, 0, 0, 0);
        pair.ask(8, 0, 0, 0, 0);
        lookAtAll(pair, 0);
        pair.move(0, Pair.ALL);
        lookAtAll(pair, 1);
    }

    private static void counterCarries() {
        CHECK.about("the counter is one number of 128 bits");
        Pair pair = new Pair(CHECK);
        pair.open(WRAPPING_SEED);
        for (int i = 0; i < 11; i++) {
            pair.ask(8, 0, 0, 0, 0);
        }
        pair.move(0, Pair.ALL);
        pair.move(1, Pair.ALL);
        pair.ask(4, 0, 0, 64, 0);
        lookAtAll(pair, 0);
        pair.move(0, Pair.ALL);
        CHECK.due("server()", pair.server(), 2);
        CHECK.due("way(1)", pair.way(1), 64);
        pair.ask(4, 0, 0, 64, 0);
        lookAtAll(pair, 0);
    }

    private static void everyByteIsSealed() {
        CHECK.about("fault 5, or 4 for a length");
        for (int i = 0; i < 64; i++) {
            Pair pair = opened();
            pair.ask(8, 0, 0, 0, 0);
            pair.alter(0, i, i == 3 ? 16 : 1);
            pair.move(0, 64);
            CHECK.due("server(), byte " + i, pair.server(), i < 3 ? -4 : -5);
            pair = opened();
            pair.ask(8, 0, 0, 0, 0);
            pair.move(0, 64);
            pair.alter(1, i, i == 3 ? 16 : 128);
            pair.move(1, 64);
            CHECK.due("client(), byte " + i, pair.client(), i < 3 ? -4 : -5);
        }
    }

    /** The packet of a request, with another length before it is enciphered. */
    private static void altersLength(int length, int state) {
        Pair pair = opened();
        for (int i = 0; i < 3; i++) {
            pair.ask(8, 0, 0, 0, 0);
        }
        byte[] mask = Flow.word(28 ^ length);
        for (int i = 0; i < 4; i++) {
            pair.alter(0, i, mask[i]);
        }
        pair.move(0, 16);
        CHECK.due("server(), length " + length, pair.server(), state);
        CHECK.due("move", pair.move(0, 160), 160);
        pair.server();
    }

    private static void lengths() {
        CHECK.about("fault 4");
        for (int length = 12; length <= 124; length += 16) {
            altersLength(length, 2);
        }
        int[] wrong = {-4, 0, 4, 8, 11, 13, 16, 27, 29, 30, 123, 125, 126, 140, 156, 268, -116, -1, -20,
            Integer.MIN_VALUE, Integer.MIN_VALUE + 12, Integer.MAX_VALUE, Integer.MAX_VALUE - 3, 0x10000 + 28};
        for (int length : wrong) {
            altersLength(length, -4);
        }
    }

    private static void lengthIsKnownWithSixteenBytes() {
        CHECK.about("fault 4, with sixteen bytes");
        Pair pair = opened();
        pair.ask(8, 0, 0, 0, 0);
        pair.alter(0, 3, 1);
        pair.move(0, 15);
        CHECK.due("server() with 15", pair.server(), 2);
        pair.move(0, 1);
        CHECK.due("server() with 16", pair.server(), -4);
        pair = opened();
        pair.ask(8, 0, 0, 0, 0);
        pair.alter(0, 63, 1);
        pair.move(0, 63);
        CHECK.due("server() with 63, a wrong seal", pair.server(), 2);
        pair.move(0, 1);
        CHECK.due("server() with 64", pair.server(), -5);
    }

    /** A request of 28 bytes whose packet has a length of 28 and says what padding one likes. */
    private static int stateByPadding(int dir, int padding) {
        Pair pair = opened();
        pair.ask(8, 0, 0, 0, 0);
        if (dir == 1) {
            pair.move(0, 64);
        }
        byte[] plain = Flow.plain(new byte[22]);
        plain[4] = (byte) padding;
        pair.forge(dir, plain);
        pair.move(dir, 64);
        return dir == 0 ? pair.server() : pair.client();
    }

    private static void paddings() {
        CHECK.about("fault 6");
        for (int dir = 0; dir <= 1; dir++) {
            for (int padding : new int[] {0, 1, 3, 28, 29, 128, 255}) {
                CHECK.due("padding " + padding, stateByPadding(dir, padding), -6);
            }
            for (int padding : new int[] {4, 6, 26, 27}) {
                CHECK.due("padding " + padding + ", its payload is not right", stateByPadding(dir, padding), -7);
            }
        }
        Pair pair = opened();
        pair.ask(8, 0, 0, 0, 0);
        byte[] plain = Flow.plain(Flow.request(1, 8, 0, 0, 0, 0));
        plain[27] = 99;
        plain[31] = 99;
        pair.forge(0, plain);
        pair.move(0, 64);
        CHECK.due("the padding's bytes are not looked at", pair.server(), 2);
    }

    /** What the server says to a payload instead of the first of four requests. */
    private static Pair toServer(byte[] payload) {
        Pair pair = opened();
        for (int i = 0; i < 4; i++) {
            pair.ask(8, 0, 0, 0, 0);
        }
        byte[] plain = Flow.plain(payload);
        pair.forge(0, plain);
        pair.move(0, plain.length + 32);
        return pair;
    }

    private static byte[] writeRequest(int c, int data) {
        return Flow.join(Flow.request(1, 4, 0, 0, c, 0), new byte[data]);
    }

    private static void requestsThatAreRight() {
        CHECK.about("requests that are right");
        for (int kind = 0; kind <= 9; kind++) {
            CHECK.due("kind " + kind, toServer(Flow.request(1, kind, 7, 7, 0, 7)).server(), 2);
        }
        for (int c : new int[] {1, 63, 64}) {
            CHECK.due("WRITE of " + c, toServer(writeRequest(c, c)).server(), 2);
        }
        for (int c : new int[] {0, -1, 65, 256 + 5, Integer.MIN_VALUE, Integer.MAX_VALUE}) {
            CHECK.due("WRITE of " + c, toServer(writeRequest(c, 0)).server(), 2);
        }
        Pair pair = toServer(Flow.request(Integer.MIN_VALUE, 8, 0, 0, 0, 0));
        CHECK.due("any number is right at the server", pair.server(), 2);
        pair.move(1, 64);
        CHECK.due("not at the client", pair.client(), -7);
        pair = toServer(Flow.request(2, 8, 0, 2, 0, 0));
        pair.move(1, 64);
        CHECK.due("another request's number", pair.status(2), 0);
        CHECK.due("client()", pair.client(), 2);
        pair.move(0, 64);
        pair.move(1, 64);
        CHECK.due("which is then no more PENDING", pair.client(), -7);
        CHECK.due("status(1)", pair.status(1), GuardedTree.LOST);
        CHECK.due("status(2)", pair.status(2), 0);
    }

    private static void requestsThatAreNot() {
        CHECK.about("requests that are not right, fault 7");
        byte[] request = Flow.request(1, 8, 0, 0, 0, 0);
        CHECK.due("no payload", toServer(new byte[0]).server(), -7);
        CHECK.due("21 bytes", toServer(Arrays.copyOf(request, 21)).server(), -7);
        CHECK.due("23 bytes", toServer(Arrays.copyOf(request, 23)).server(), -7);
        CHECK.due("one byte", toServer(new byte[1]).server(), -7);
        CHECK.due("kind 10", toServer(Flow.request(1, 10, 0, 0, 0, 0)).server(), -7);
        CHECK.due("kind 255", toServer(Flow.request(1, 255, 0, 0, 0, 0)).server(), -7);
        CHECK.due("kind 128", toServer(Flow.request(1, 128, 0, 0, 0, 0)).server(), -7);
        CHECK.due("WRITE without its data", toServer(writeRequest(5, 0)).server(), -7);
        CHECK.due("WRITE with less", toServer(writeRequest(5, 4)).server(), -7);
        CHECK.due("WRITE with more", toServer(writeRequest(5, 6)).server(), -7);
        CHECK.due("WRITE of 0 with data", toServer(writeRequest(0, 1)).server(), -7);
        CHECK.due("WRITE of 65 with data", toServer(writeRequest(65, 65)).server(), -7);
        CHECK.due("READ with data", toServer(Flow.join(Flow.request(1, 3, 0, 0, 5, 0), new byte[5])).server(), -7);
        CHECK.due("a reply", toServer(Flow.reply(1, 0, new byte[0])).server(), -7);
        CHECK.due("a reply of 22", toServer(Flow.reply(1, 0, new byte[13])).server(), -7);
        request[0] = 3;
        CHECK.due("a byte 3", toServer(request).server(), -7);
        request[0] = -128;
        CHECK.due("a byte 128", toServer(request).server(), -7);
        Pair pair = toServer(Flow.request(1, 11, 0, 1, 1, 0));
        CHECK.due("no reply", pair.way(1), 0);
        pair.move(0, Pair.ALL);
        CHECK.due("nothing comes any more", pair.way(1), 0);
        CHECK.due("credit(1)", pair.credit(1), 0);
    }

    /** Ten reads whose replies (but five) wait: 220 bytes; only 180 bytes more are right. */
    private static void requestsBeyondTheCredit() {
        CHECK.about("requests beyond 400 bytes that were not granted back, fault 7");
        for (int last : new int[] {26, 27}) {
            Pair pair = opened();
            pair.done(2, 0, 1, 1);
            pair.done(4, 1, 0, 64);
            pair.open(21);
            for (int i = 0; i < 10; i++) {
                pair.ask(3, 1, 0, 64, 0);
            }
            pair.move(0, Pair.ALL);
            CHECK.due("five replies", pair.way(1), 5 * 128);
            pair.forgePayload(1, Flow.grant(220));
            pair.move(1, 128);
            CHECK.due("credit(0)", pair.credit(0), 400);
            pair.ask(4, 1, 0, 64, 0);
            pair.ask(4, 1, 0, 24, 0);
            pair.ask(4, 1, 0, last, 0);
            pair.move(0, 128 + 96);
            CHECK.due("352 bytes", pair.server(), 2);
            pair.move(0, Pair.ALL);
            CHECK.due("400 bytes are right, 401 are not", pair.server(), last == 26 ? 2 : -7);
            CHECK.due("credit(1)", pair.credit(1), last == 26 ? 35 : 0);
        }
    }

    /** What the client says to a payload instead of the reply to the first of two requests. */
    private static Pair toClient(byte[] payload) {
        Pair pair = opened();
        pair.done(8, 0, 0, 0);
        for (int i = 0; i < 4; i++) {
            pair.ask(8, 0, 0, 0, 0);
        }
        pair.move(0, Pair.ALL);
        byte[] plain = Flow.plain(payload);
        pair.forge(1, plain);
        pair.move(1, plain.length + 32);
        return pair;
    }

    private static void repliesThatAreRight() {
        CHECK.about("replies that are right");
        byte[] read = new byte[64];
        for (int i = 0; i < 64; i++) {
            read[i] = (byte) (200 + i);
        }
        for (int count : new int[] {0, 1, 63, 64}) {
            Pair pair = toClient(Flow.reply(3, count - 500, Arrays.copyOf(read, count)));
            CHECK.due("client() with " + count, pair.client(), 2);
            CHECK.due("status(3)", pair.status(3), count - 500);
            CHECK.due("status(2)", pair.status(2), GuardedTree.PENDING);
            CHECK.due("the last byte", pair.data(3, count - 1), count == 0 ? Pair.THROWN : 200 + count - 1 & 255);
            CHECK.due("no more", pair.data(3, count), Pair.THROWN);
        }
        Pair pair = toClient(Flow.reply(2, GuardedTree.PENDING, new byte[0]));
        CHECK.due("a status that looks like PENDING", pair.status(2), GuardedTree.PENDING);
        pair.forge(1, Flow.plain(Flow.reply(2, 5, new byte[0])));
        pair.move(1, 64);
        CHECK.due("but is none", pair.client(), -7);
        CHECK.due("status(2)", pair.status(2), GuardedTree.PENDING);
        CHECK.due("status(3)", pair.status(3), GuardedTree.LOST);
    }

    private static void repliesThatAreNot() {
        CHECK.about("replies that are not right, fault 7");
        byte[] none = new byte[0];
        CHECK.due("no payload", toClient(none).client(), -7);
        CHECK.due("8 bytes", toClient(Arrays.copyOf(Flow.reply(2, 0, none), 8)).client(), -7);
        CHECK.due("74 bytes", toClient(Flow.reply(2, 0, new byte[65])).client(), -7);
        CHECK.due("number 0", toClient(Flow.reply(0, 0, none)).client(), -7);
        CHECK.due("number 1, answered", toClient(Flow.reply(1, 0, none)).client(), -7);
        CHECK.due("number 6, not asked", toClient(Flow.reply(6, 0, none)).client(), -7);
        CHECK.due("number -1", toClient(Flow.reply(-1, 0, none)).client(), -7);
        CHECK.due("number 2^24", toClient(Flow.reply(1 << 24, 0, none)).client(), -7);
        CHECK.due("a request", toClient(Flow.request(2, 8, 0, 0, 0, 0)).client(), -7);
        CHECK.due("a byte 3", toClient(Flow.join(new byte[] {3}, Flow.word(2), Flow.word(0))).client(), -7);
        Pair pair = toClient(Flow.reply(6, 0, none));
        CHECK.due("LOST", pair.status(2), GuardedTree.LOST);
        CHECK.due("answered before", pair.status(1), 1);
        pair = opened();
        int lost = pair.ask(8, 0, 0, 0, 0);
        pair.open(21);
        pair.ask(8, 0, 0, 0, 0);
        pair.move(0, 64);
        pair.forge(1, Flow.plain(Flow.reply(lost, 0, none)));
        pair.move(1, 64);
        CHECK.due("a LOST request's number", pair.client(), -7);
    }

    private static void grants() {
        CHECK.about("grants at the server, of whose credit nothing is spent");
        CHECK.due("1", toServer(Flow.grant(1)).server(), -7);
        CHECK.about("grants at the client, of whose credit 110 bytes are spent");
        for (int amount : new int[] {1, 2, 109, 110}) {
            Pair pair = toClient(Flow.grant(amount));
            CHECK.due("client(), " + amount, pair.client(), 2);
            CHECK.due("credit(0)", pair.credit(0), 290 + amount);
        }
        for (int amount : new int[] {0, -1, 111, 400, Integer.MIN_VALUE, Integer.MAX_VALUE}) {
            CHECK.due("client(), " + amount, toClient(Flow.grant(amount)).client(), -7);
        }
        CHECK.due("4 bytes", toClient(Arrays.copyOf(Flow.grant(1), 4)).client(), -7);
        CHECK.due("6 bytes", toClient(Arrays.copyOf(Flow.grant(1), 6)).client(), -7);
        CHECK.about("grants at the server, of whose credit 9 bytes are spent");
        for (int amount : new int[] {0, 1, 9, 10, -5}) {
            Pair pair = opened();
            pair.ask(8, 0, 0, 0, 0);
            pair.ask(8, 0, 0, 0, 0);
            pair.move(0, 64);
            pair.forgePayload(0, Flow.grant(amount));
            pair.move(0, 64);
            boolean right = amount == 1 || amount == 9;
            CHECK.due("server(), " + amount, pair.server(), right ? 2 : -7);
            CHECK.due("credit(1)", pair.credit(1), right ? 391 + amount : 0);
        }
    }

    private static void longPackets() {
        CHECK.about("a packet of 160 bytes, with more padding than it needs");
        Pair pair = opened();
        for (int i = 0; i < 4; i++) {
            pair.ask(8, 0, 0, 0, 0);
        }
        pair.forge(0, Flow.plain(Flow.request(1, 8, 0, 0, 0, 0), 124 - 1 - 22));
        pair.move(0, 159);
        CHECK.due("way(1)", pair.way(1), 0);
        pair.move(0, 1);
        CHECK.due("server()", pair.server(), 2);
        CHECK.due("way(1)", pair.way(1), 64);
        pair.move(1, 64);
        CHECK.due("status(1)", pair.status(1), 1);
    }
}
