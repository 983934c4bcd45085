/** Promise 10 and CREDIT: what each side may send, grants, and what waits. */
final class CreditTest {
    private static final Check CHECK = new Check("CreditTest");

    public static void main(String[] args) {
        sides();
        spending();
        serverGrants();
        clientGrants();
        repliesWait();
        lastBytesOfCredit();
        waitingRepliesVanish();
        clientIsHeldBack();
        clientsGrantIsHeldBack();
        serverIsHeldBack();
        CHECK.end();
    }

    private static void sides() {
        CHECK.about("promise 10, sides");
        Pair pair = new Pair(CHECK);
        for (int side : new int[] {-1, 2, Integer.MIN_VALUE, Integer.MAX_VALUE}) {
            CHECK.due("credit(" + side + ")", pair.credit(side), Pair.THROWN);
        }
        CHECK.due("no connection", pair.credit(0), 0);
        CHECK.due("no connection", pair.credit(1), 0);
        pair.connect(1);
        CHECK.due("not open", pair.credit(0), 0);
        CHECK.due("not open", pair.credit(1), 0);
        pair.move(0, 32);
        CHECK.due("not open", pair.credit(0), 0);
        CHECK.due("open", pair.credit(1), 400);
        pair.move(1, 96);
        CHECK.due("open", pair.credit(0), 400);
        pair.alter(0, 0, 0);
        pair.ask(8, 0, 0, 0, 0);
        pair.alter(0, 0, 255);
        pair.move(0, 64);
        CHECK.due("over", pair.credit(1), 0);
        CHECK.due("the other one", pair.credit(0), 378);
        pair.open(1);
        CHECK.due("anew", pair.credit(0), 400);
        CHECK.due("anew", pair.credit(1), 400);
        pair.cut(0, 0);
        pair.ask(1, 0, 1, 1, 0);
        pair.move(0, 64);
        CHECK.due("no power", pair.credit(1), 0);
        CHECK.due("the client is as it was", pair.credit(0), 378);
        pair.start();
        CHECK.due("no connection", pair.credit(1), 0);
        CHECK.due("the client is as it was", pair.credit(0), 378);
    }

    private static void spending() {
        CHECK.about("promise 10, what payloads cost");
        Pair pair = new Pair(CHECK);
        pair.open(1);
        pair.ask(8, 0, 0, 0, 0);
        CHECK.due("22 bytes", pair.credit(0), 378);
        pair.ask(4, 1, 0, 10, 0);
        CHECK.due("32 bytes more", pair.credit(0), 346);
        CHECK.due("nothing came yet", pair.credit(1), 400);
        pair.move(0, Pair.ALL);
        CHECK.due("two replies", pair.credit(1), 382);
        CHECK.due("no grant yet", pair.move(1, Pair.ALL), 128);
        CHECK.due("credit(0)", pair.credit(0), 346);
        CHECK.due("credit(1)", pair.credit(1), 382);
    }

    private static void serverGrants() {
        CHECK.about("the server's grants");
        Pair pair = new Pair(CHECK);
        pair.open(1);
        for (int i = 0; i < 8; i++) {
            pair.ask(8, 0, 0, 0, 0);
        }
        pair.ask(4, 9, 0, 1, 0);
        pair.move(0, Pair.ALL);
        CHECK.due("199 bytes, no grant", pair.way(1), 9 * 64);
        pair.ask(8, 0, 0, 0, 0);
        pair.move(0, Pair.ALL);
        CHECK.due("221 bytes, a grant", pair.way(1), 10 * 64 + 48);
        pair.move(1, 10 * 64 + 47);
        CHECK.due("before it", pair.credit(0), 179);
        pair.move(1, 1);
        CHECK.due("behind it", pair.credit(0), 400);

        pair = new Pair(CHECK);
        pair.open(1);
        for (int i = 0; i < 8; i++) {
            pair.ask(8, 0, 0, 0, 0);
        }
        pair.ask(4, 9, 0, 2, 0);
        pair.move(0, Pair.ALL);
        CHECK.due("200 bytes, a grant", pair.way(1), 9 * 64 + 48);
        pair.move(1, Pair.ALL);
        CHECK.due("credit(0)", pair.credit(0), 400);
    }

    /** A file 1 with 64 bytes. */
    private static Pair withFile(int seed) {
        Pair pair = new Pair(CHECK);
        pair.open(seed);
        pair.done(2, 0, 1, 1);
        pair.done(4, 1, 0, 64);
        pair.open(seed);
        return pair;
    }

    private static void clientGrants() {
        CHECK.about("the client's grants");
        Pair pair = withFile(1);
        pair.done(3, 1, 0, 64);
        pair.done(3, 1, 0, 64);
        pair.done(3, 1, 0, 44);
        CHECK.due("199 bytes, no grant", pair.way(0), 0);
        CHECK.due("credit(1)", pair.credit(1), 201);
        pair.done(8, 0, 0, 0);
        CHECK.due("208 bytes, a grant", pair.way(0), 48);
        CHECK.due("credit(1)", pair.credit(1), 192);
        pair.move(0, 47);
        CHECK.due("before it", pair.credit(1), 192);
        pair.move(0, 1);
        CHECK.due("behind it", pair.credit(1), 400);

        pair = withFile(1);
        pair.done(3, 1, 0, 64);
        pair.done(3, 1, 0, 64);
        pair.done(3, 1, 0, 45);
        CHECK.due("200 bytes, a grant", pair.way(0), 48);
    }

    private static void repliesWait() {
        CHECK.about("replies that wait");
        Pair pair = withFile(1);
        for (int i = 0; i < 6; i++) {
            pair.ask(3, 1, 0, 64, 0);
        }
        pair.ask(8, 1, 0, 0, 0);
        pair.move(0, Pair.ALL);
        CHECK.due("five went out, 35 bytes are left", pair.credit(1), 35);
        CHECK.due("none overtakes the first", pair.way(1), 5 * 128);
        pair.move(1, 3 * 128);
        CHECK.due("the client's grant", pair.way(0), 48);
        pair.move(0, Pair.ALL);
        CHECK.due("two more went out", pair.credit(1), 35 + 219 - 73 - 9);
        CHECK.due("way(1)", pair.way(1), 3 * 128 + 64);
        pair.moveAll();
        for (int id = 3; id <= 8; id++) {
            CHECK.due("status " + id, pair.status(id), 64);
        }
        CHECK.due("status 9", pair.status(9), 2);
    }

    private static void lastBytesOfCredit() {
        CHECK.about("a reply for which there is just enough credit, and one byte less");
        for (int count : new int[] {26, 27}) {
            Pair pair = withFile(1);
            for (int i = 0; i < 5; i++) {
                pair.ask(3, 1, 0, 64, 0);
            }
            pair.ask(3, 1, 0, count, 0);
            pair.move(0, Pair.ALL);
            CHECK.due("credit(1), a reply with " + count, pair.credit(1), count == 26 ? 0 : 35);
        }
    }

    private static void waitingRepliesVanish() {
        CHECK.about("replies that wait vanish with a fault");
        Pair pair = withFile(1);
        for (int i = 0; i < 7; i++) {
            pair.ask(3, 1, 0, 64, 0);
        }
        pair.move(0, 6 * 64);
        CHECK.due("way(1)", pair.way(1), 5 * 128);
        pair.alter(0, 40, 1);
        pair.move(0, 64);
        CHECK.due("server()", pair.server(), -5);
        pair.move(1, Pair.ALL);
        CHECK.due("the client's grant", pair.move(0, Pair.ALL), 48);
        CHECK.due("nothing more", pair.way(1), 0);
        CHECK.due("status 7", pair.status(7), 64);
        CHECK.due("status 8", pair.status(8), GuardedTree.PENDING);
        pair.open(2);
        CHECK.due("nothing of old on a new connection", pair.done(8, 0, 0, 0), 1);
    }

    /** So many requests of 22 bytes. */
    private static void askMany(Pair pair, int count, int kind) {
        for (int i = 0; i < count; i++) {
            pair.ask(kind, 1, 0, 64, 0);
        }
    }

    /** A request comes to the server, and its reply to the client as a grant that nobody gave. */
    private static void grantClient(Pair pair, int amount) {
        pair.move(0, 64);
        pair.forgePayload(1, Flow.grant(amount));
        pair.move(1, 64);
        CHECK.due("client()", pair.client(), 2);
    }

    private static void clientIsHeldBack() {
        CHECK.about("3000 bytes on the way from the client");
        Pair pair = new Pair(CHECK);
        pair.open(1);
        askMany(pair, 18, 8);
        grantClient(pair, 396);
        CHECK.due("credit(0)", pair.credit(0), 400);
        askMany(pair, 18, 8);
        grantClient(pair, 396);
        askMany(pair, 12, 8);
        CHECK.due("way(0)", pair.way(0), 46 * 64);
        CHECK.due("at 2944", pair.ask(8, 0, 0, 0, 0), 49);
        CHECK.due("way(0)", pair.way(0), 3008);
        pair.put(1);
        CHECK.due("at 3008", pair.ask(8, 0, 0, 0, 0), GuardedTree.NONE);
        CHECK.due("at 3008", pair.ask(4, 0, 0, 1, 0), GuardedTree.NONE);
        CHECK.due("the data stays", pair.put(1), 2);
        CHECK.due("there is credit", pair.credit(0), 400 - 13 * 22);
        pair.move(0, 8);
        CHECK.due("at 3000", pair.ask(8, 0, 0, 0, 0), GuardedTree.NONE);
        pair.move(0, 1);
        CHECK.due("at 2999", pair.ask(8, 0, 0, 0, 0), 50);
        CHECK.due("way(0)", pair.way(0), 3063);
    }

    private static void clientsGrantIsHeldBack() {
        CHECK.about("3000 bytes on the way when the client would grant");
        Pair pair = withFile(1);
        askMany(pair, 18, 3);
        pair.move(0, 64);
        pair.forgePayload(1, Flow.grant(396));
        pair.move(1, 128);
        askMany(pair, 18, 3);
        pair.move(0, 4 * 64);
        CHECK.due("way(1)", pair.way(1), 4 * 128);
        pair.forgePayload(1, Flow.grant(396));
        pair.move(1, 128);
        askMany(pair, 16, 3);
        CHECK.due("way(0)", pair.way(0), 47 * 64);
        pair.move(1, Pair.ALL);
        CHECK.due("219 bytes were opened, no grant", pair.way(0), 47 * 64);
        pair.move(0, 64);
        CHECK.due("no credit for one more", pair.way(1), 0);
        pair.forgePayload(0, Flow.grant(100));
        pair.move(0, 64);
        CHECK.due("its reply", pair.way(1), 128);
        pair.move(1, 128);
        CHECK.due("all there is to grant by then", pair.way(0), 45 * 64 + 48);
        CHECK.due("client()", pair.client(), 2);
        CHECK.due("server()", pair.server(), 2);
    }

    /** Comes to the server: reads of file 1, of which one in six is altered into a grant. */
    private static void serveReads(Pair pair, int sixes) {
        for (int i = 0; i < sixes; i++) {
            pair.move(0, 5 * 64);
            pair.forgePayload(0, Flow.grant(365));
            pair.move(0, 64);
            CHECK.due("server()", pair.server(), 2);
        }
    }

    private static void serverIsHeldBack() {
        CHECK.about("3000 bytes on the way from the server");
        Pair pair = withFile(1);
        askMany(pair, 18, 3);
        serveReads(pair, 3);
        CHECK.due("15 replies and a grant", pair.way(1), 15 * 128 + 48);
        pair.forgePayload(1, Flow.grant(396));
        pair.move(1, 128);
        askMany(pair, 18, 3);
        pair.move(0, 5 * 64);
        CHECK.due("20 replies and two grants", pair.way(1), 19 * 128 + 2 * 48);
        pair.forgePayload(0, Flow.grant(365));
        pair.move(0, 64);
        pair.move(0, 3 * 64);
        CHECK.due("below 3000", pair.way(1), 22 * 128 + 2 * 48);
        pair.move(0, 64);
        CHECK.due("the last one before 3000", pair.way(1), 23 * 128 + 2 * 48);
        CHECK.due("credit(1)", pair.credit(1), 400 - 4 * 73);
        pair.forgePayload(0, Flow.grant(4 * 73));
        pair.move(0, 64);
        pair.move(0, 64);
        CHECK.due("it waits", pair.way(1), 23 * 128 + 2 * 48);
        CHECK.due("there is credit", pair.credit(1), 400);
        pair.forgePayload(1, Flow.grant(396));
        pair.move(1, 128);
        CHECK.due("nothing goes by itself", pair.way(1), 22 * 128 + 2 * 48);
        askMany(pair, 8, 3);
        pair.move(0, 64);
        CHECK.due("one goes behind the next packet", pair.way(1), 23 * 128 + 2 * 48);
        CHECK.due("credit(1)", pair.credit(1), 327);
        serversGrantIsHeldBack(pair);
    }

    /** Goes on with 3040 bytes on the way, a reply that waits, and 110 bytes of requests to grant. */
    private static void serversGrantIsHeldBack(Pair pair) {
        CHECK.about("3000 bytes on the way when the server would grant");
        for (int i = 0; i < 4; i++) {
            pair.move(1, 128);
            pair.move(0, 64);
        }
        CHECK.due("198 bytes to grant", pair.credit(1), 35);
        pair.forgePayload(0, Flow.grant(365));
        pair.move(0, 64);
        CHECK.due("credit(1)", pair.credit(1), 400);
        pair.move(1, 128);
        pair.move(0, 64);
        CHECK.due("a reply, but no grant", pair.way(1), 23 * 128 + 2 * 48);
        CHECK.due("credit(1)", pair.credit(1), 327);
        pair.move(1, 256);
        pair.move(0, 64);
        CHECK.due("a reply, the grant, a reply", pair.way(1), 23 * 128 + 3 * 48);
        CHECK.due("credit(1)", pair.credit(1), 181);
        int end = pair.way(1) - 128;
        for (int i = end - 48; i < end; i++) {
            pair.octet(1, i);
        }
        CHECK.due("credit(0)", pair.credit(0), 224);
        pair.move(1, 128 + 47);
        CHECK.due("client()", pair.client(), 2);
        pair.move(1, 1);
        CHECK.due("a grant of 220 is too much, with those that were forged", pair.client(), -7);
    }
}
