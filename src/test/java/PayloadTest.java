import java.util.Arrays;

/** PAYLOADS: which of them are RIGHT at each side, and fault 7. */
final class PayloadTest {
    private static final Check CHECK = new Check("PayloadTest");
    private static final byte[] NOTHING = new byte[0];

    public static void main(String[] args) {
        dataOfWrites();
        noDataOfOtherKinds();
        kindsOfRequests();
        sizesOfRequests();
        sizesOfWrites();
        requestsOfAnyNumber();
        otherPayloadsToTheServer();
        bytesNotGrantedBack();
        sizesOfReplies();
        repliesToPendingRequests();
        repliesOfAnyStatus();
        otherPayloadsToTheClient();
        bytesOfGrants();
        sizesOfGrants();
        grantsAtTheClient();
        grantsAtTheServer();
        rightWithoutAlterations();
        CHECK.end();
    }

    private static Pair opened() {
        return Pair.opened(CHECK, 21);
    }

    private static void dataOfWrites() {
        CHECK.sentence("Terms", "for WRITE with c from 1 to 64 c bytes of data");
        int[] counts = {1, 2, 63, 64, 0, -1, 65, 66, 257, Integer.MIN_VALUE, Integer.MAX_VALUE};
        for (int c : counts) {
            Pair pair = opened();
            pair.ask(4, 1, 0, c, 0);
            int data = c >= 1 && c <= 64 ? c : 0;
            CHECK.due("credit(0), WRITE of " + c, pair.credit(0), 400 - 22 - data);
            CHECK.due("what was sent", pair.model.lastSent[0].length, 22 + data);
            pair.lookAtAll(0, 0);
        }
    }

    private static void noDataOfOtherKinds() {
        CHECK.sentence("Terms", "and for WRITE");
        Pair pair = opened();
        pair.put(1);
        int spent = 0;
        for (int kind = 0; kind <= 9; kind++) {
            if (kind != 4) {
                pair.ask(kind, 1, 0, 64, 0);
                spent += 22;
                CHECK.due("credit(0) behind kind " + kind, pair.credit(0), 400 - spent);
            }
        }
        CHECK.due("put, the first word stayed", pair.put(2), 2);
    }

    /** What the server says to a payload in place of the first of four requests. */
    private static Pair toServer(byte[] payload) {
        Pair pair = opened();
        pair.askMany(4, 8);
        byte[] plain = Flow.plain(payload);
        pair.forge(0, plain);
        pair.move(0, plain.length + 32);
        return pair;
    }

    /** A payload that the server finds right: there is a reply to it. */
    private static void rightAtServer(String what, byte[] payload) {
        Pair pair = toServer(payload);
        CHECK.due("server(), " + what, pair.server(), 2);
        CHECK.due("way(1), " + what, pair.way(1), 64);
        CHECK.due("credit(1), " + what, pair.credit(1), 391);
    }

    private static void wrongAtServer(String what, byte[] payload) {
        Pair pair = toServer(payload);
        CHECK.due("server(), " + what, pair.server(), -7);
        CHECK.due("way(1), " + what, pair.way(1), 0);
        CHECK.due("changes(), " + what, pair.changes(), 0);
        pair.move(0, Pair.ALL);
        CHECK.due("way(1), later", pair.way(1), 0);
    }

    private static void kindsOfRequests() {
        CHECK.sentence("Terms", "at the server a request with a kind 0 .. 9");
        for (int kind = 0; kind <= 9; kind++) {
            rightAtServer("kind " + kind, Flow.request(1, kind, 7, 7, 0, 7));
        }
        for (int kind : new int[] {10, 11, 127, 128, 246, 255}) {
            wrongAtServer("kind " + kind, Flow.request(1, kind, 0, 1, 1, 1));
        }
    }

    private static void sizesOfRequests() {
        CHECK.sentence("Terms", "of 22 bytes and the data as said");
        byte[] request = Flow.request(1, 1, 0, 1, 1, 0);
        rightAtServer("22 bytes", request);
        for (int size : new int[] {0, 1, 2, 4, 6, 9, 21, 23, 24, 54, 86, 87}) {
            wrongAtServer(size + " bytes", Arrays.copyOf(request, size));
        }
    }

    private static byte[] write(int c, int data) {
        return Flow.join(Flow.request(1, 4, 0, 0, c, 0), new byte[data]);
    }

    private static void sizesOfWrites() {
        CHECK.sentence("Terms", "and the data as said");
        for (int c : new int[] {1, 2, 63, 64}) {
            rightAtServer("WRITE of " + c, write(c, c));
            wrongAtServer("WRITE of " + c + " with a byte less", write(c, c - 1));
            wrongAtServer("WRITE of " + c + " with a byte more", write(c, c + 1));
        }
        for (int c : new int[] {0, -1, 65, 256 + 5, Integer.MIN_VALUE, Integer.MAX_VALUE}) {
            rightAtServer("WRITE of " + c, write(c, 0));
            wrongAtServer("WRITE of " + c + " with a byte", write(c, 1));
        }
        wrongAtServer("WRITE of 65 with 65 bytes", write(65, 65));
        wrongAtServer("READ with data", Flow.join(Flow.request(1, 3, 0, 0, 5, 0), new byte[5]));
    }

    private static void requestsOfAnyNumber() {
        CHECK.sentence("Terms", "RIGHT are: at the server a request");
        for (int number : new int[] {0, 5, -1, Integer.MIN_VALUE, Integer.MAX_VALUE}) {
            byte[] payload = Flow.request(number, 8, 0, 0, 0, 0);
            rightAtServer("number " + number, payload);
            Pair pair = toServer(payload);
            pair.move(1, 64);
            CHECK.due("client(), number " + number, pair.client(), -7);
        }
    }

    private static void otherPayloadsToTheServer() {
        CHECK.sentence("Terms", "fault 7 if its payload is not RIGHT (below)");
        wrongAtServer("none", NOTHING);
        wrongAtServer("a reply", Flow.reply(1, 0, NOTHING));
        wrongAtServer("a reply of 22 bytes", Flow.reply(1, 0, new byte[13]));
        for (int first : new int[] {1, 2, 3, 128, 255}) {
            byte[] payload = Flow.request(1, 8, 0, 0, 0, 0);
            payload[0] = (byte) first;
            wrongAtServer("a request that begins with " + first, payload);
        }
    }

    /** Ten reads whose replies (but five) wait, 220 bytes; then 132 bytes more, and a last request. */
    private static void bytesNotGrantedBack() {
        CHECK.sentence("Terms",
            "unless the requests that it did not grant back would have more than 400 bytes with it");
        for (int last : new int[] {26, 27}) {
            Pair pair = Pair.withFile(CHECK);
            pair.askMany(10, 3);
            pair.move(0, Pair.ALL);
            CHECK.due("way(1), five replies", pair.way(1), 5 * 128);
            pair.forgePayload(1, Flow.grant(220));
            pair.move(1, 128);
            CHECK.due("credit(0)", pair.credit(0), 400);
            pair.ask(4, 1, 0, 64, 0);
            pair.ask(4, 1, 0, 24, 0);
            pair.ask(4, 1, 0, last, 0);
            pair.move(0, 128 + 96);
            CHECK.due("server() with 352", pair.server(), 2);
            pair.move(0, Pair.ALL);
            CHECK.due("server() with " + (374 + last), pair.server(), last == 26 ? 2 : -7);
            CHECK.due("credit(1)", pair.credit(1), last == 26 ? 35 : 0);
            CHECK.due("changes()", pair.changes(), last == 26 ? 5 : 4);
        }
    }

    /** What the client says to a payload in place of the reply to the second of five requests. */
    private static Pair toClient(byte[] payload) {
        Pair pair = opened();
        pair.done(8, 0, 0, 0);
        pair.askMany(4, 8);
        pair.move(0, Pair.ALL);
        byte[] plain = Flow.plain(payload);
        pair.forge(1, plain);
        pair.move(1, plain.length + 32);
        return pair;
    }

    private static void wrongAtClient(String what, byte[] payload) {
        Pair pair = toClient(payload);
        CHECK.due("client(), " + what, pair.client(), -7);
        CHECK.due("status(1), " + what, pair.status(1), 1);
        CHECK.due("status(2), " + what, pair.status(2), GuardedTree.LOST);
        CHECK.due("data(2, 0), " + what, pair.data(2, 0), Pair.THROWN);
    }

    private static void sizesOfReplies() {
        CHECK.sentence("Terms", "at the client a reply of 9 to 73 bytes");
        byte[] read = new byte[64];
        for (int i = 0; i < 64; i++) {
            read[i] = (byte) (200 + i);
        }
        for (int count : new int[] {0, 1, 63, 64}) {
            Pair pair = toClient(Flow.reply(2, count - 500, Arrays.copyOf(read, count)));
            CHECK.due("client() with " + count, pair.client(), 2);
            CHECK.due("status(2) with " + count, pair.status(2), count - 500);
            CHECK.due("the last byte", pair.data(2, count - 1), count == 0 ? Pair.THROWN : 200 + count - 1 & 255);
            CHECK.due("no more", pair.data(2, count), Pair.THROWN);
        }
        for (int size : new int[] {0, 1, 4, 5, 6, 8}) {
            wrongAtClient(size + " bytes", Arrays.copyOf(Flow.reply(2, 0, NOTHING), size));
        }
        wrongAtClient("74 bytes", Flow.reply(2, 0, new byte[65]));
        wrongAtClient("80 bytes", Flow.reply(2, 0, new byte[71]));
    }

    private static void repliesToPendingRequests() {
        CHECK.sentence("Terms", "whose number is that of a request that is PENDING");
        for (int number = 2; number <= 5; number++) {
            Pair pair = toClient(Flow.reply(number, 7, NOTHING));
            CHECK.due("client(), number " + number, pair.client(), 2);
            CHECK.due("status, number " + number, pair.status(number), 7);
        }
        for (int number : new int[] {0, 1, 6, -1, 2 + 256, 2 << 24, Integer.MAX_VALUE, Integer.MIN_VALUE}) {
            wrongAtClient("number " + number, Flow.reply(number, 0, NOTHING));
        }
        Pair pair = opened();
        int lost = pair.ask(8, 0, 0, 0, 0);
        pair.open(21);
        pair.ask(8, 0, 0, 0, 0);
        pair.move(0, 64);
        pair.forge(1, Flow.plain(Flow.reply(lost, 0, NOTHING)));
        pair.move(1, 64);
        CHECK.due("client(), a LOST request's number", pair.client(), -7);
        pair = toClient(Flow.reply(3, 7, NOTHING));
        pair.move(1, 64);
        CHECK.due("client(), a number once more", pair.client(), -7);
        CHECK.due("status(3)", pair.status(3), 7);
    }

    private static void repliesOfAnyStatus() {
        CHECK.sentence("Terms", "A REPLY: a byte 1, the request's number, its status, and the bytes that were read.");
        for (int status : new int[] {GuardedTree.PENDING, GuardedTree.LOST, GuardedTree.UNKNOWN, Integer.MIN_VALUE}) {
            Pair pair = toClient(Flow.reply(2, status, NOTHING));
            CHECK.due("status(2)", pair.status(2), status);
            pair.forge(1, Flow.plain(Flow.reply(2, 5, NOTHING)));
            pair.move(1, 64);
            CHECK.due("client(), it is no more PENDING", pair.client(), -7);
            CHECK.due("status(2)", pair.status(2), status);
            CHECK.due("status(3)", pair.status(3), GuardedTree.LOST);
        }
    }

    private static void otherPayloadsToTheClient() {
        CHECK.sentence("Terms", "fault 7 if its payload is not RIGHT (below)");
        wrongAtClient("none", NOTHING);
        wrongAtClient("a request", Flow.request(2, 8, 0, 0, 0, 0));
        for (int first : new int[] {0, 2, 3, 129, 255}) {
            byte[] payload = Flow.reply(2, 0, NOTHING);
            payload[0] = (byte) first;
            wrongAtClient("a reply that begins with " + first, payload);
        }
    }

    private static void bytesOfGrants() {
        CHECK.sentence("Terms", "A GRANT: a byte 2, and how much.");
        Pair pair = Pair.withFile(CHECK);
        pair.askMany(3, 3);
        pair.askMany(9, 8);
        pair.move(0, Pair.ALL);
        CHECK.due("way(1)", pair.way(1), 3 * 128 + 9 * 64 + 48);
        pair.lookAtAll(1, 3 * 128 + 7 * 64);
        pair.move(1, Pair.ALL);
        CHECK.due("credit(0)", pair.credit(0), 400 - 2 * 22);
        CHECK.due("way(0)", pair.way(0), 48);
        CHECK.due("the client's grant", Arrays.equals(pair.model.lastSent[0], Flow.grant(219)), true);
        pair.lookAtAll(0, 0);
    }

    private static void sizesOfGrants() {
        CHECK.sentence("Terms", "at both a grant of 5 bytes");
        Pair pair = toClient(Flow.grant(1));
        CHECK.due("client(), 5 bytes", pair.client(), 2);
        for (int size : new int[] {1, 4, 6, 9, 22}) {
            byte[] payload = Arrays.copyOf(Flow.grant(1), size);
            wrongAtClient(size + " bytes", payload);
            pair = spentAtServer(payload);
            CHECK.due("server(), " + size + " bytes", pair.server(), -7);
        }
    }

    private static void grantsAtTheClient() {
        CHECK.sentence("Terms", "of 1 up to what brings the credit back to 400");
        for (int amount : new int[] {1, 2, 109, 110}) {
            Pair pair = toClient(Flow.grant(amount));
            CHECK.due("client(), " + amount, pair.client(), 2);
            CHECK.due("credit(0)", pair.credit(0), 290 + amount);
        }
        for (int amount : new int[] {0, -1, 111, 112, 400, 401, Integer.MIN_VALUE, Integer.MAX_VALUE, -110}) {
            wrongAtClient("a grant of " + amount, Flow.grant(amount));
        }
    }

    /** What the server says to a payload when 9 bytes of its credit are spent. */
    private static Pair spentAtServer(byte[] payload) {
        Pair pair = opened();
        pair.askMany(2, 8);
        pair.move(0, 64);
        pair.forgePayload(0, payload);
        pair.move(0, 64);
        return pair;
    }

    private static void grantsAtTheServer() {
        CHECK.sentence("Terms", "of 1 up to what brings the credit back to 400");
        for (int amount : new int[] {1, 8, 9}) {
            Pair pair = spentAtServer(Flow.grant(amount));
            CHECK.due("server(), " + amount, pair.server(), 2);
            CHECK.due("credit(1)", pair.credit(1), 391 + amount);
        }
        for (int amount : new int[] {0, -1, 10, 11, 400, Integer.MIN_VALUE, Integer.MAX_VALUE, -9}) {
            Pair pair = spentAtServer(Flow.grant(amount));
            CHECK.due("server(), " + amount, pair.server(), -7);
            CHECK.due("credit(1)", pair.credit(1), 0);
        }
        wrongAtServer("a grant of 1 when nothing is spent", Flow.grant(1));
    }

    private static void rightWithoutAlterations() {
        CHECK.sentence("Terms", "(Without alterations all are.)");
        Pair pair = Pair.withFile(CHECK);
        while (pair.calls() < 480) {
            pair.ask(3 + pair.calls() % 2, 1, 0, 64, 0);
            pair.ask(3, 1, 0, 64, 0);
            pair.move(0, pair.calls() % 300);
            pair.move(1, pair.calls() % 200);
        }
        CHECK.due("server()", pair.server(), 2);
        CHECK.due("client()", pair.client(), 2);
        CHECK.due("requests went out", pair.model.asked() > 50, true);
    }
}
