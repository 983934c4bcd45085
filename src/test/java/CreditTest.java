/** CREDIT and promise 10: what each side may send, grants, what waits, and 3000 bytes on the way. */
final class CreditTest {
    private static final Check CHECK = new Check("CreditTest");

    public static void main(String[] args) {
        sides();
        creditIsOfOpenSides();
        clientsFourHundredBytes();
        serversFourHundredBytes();
        grantsCostNothing();
        asMuchMoreAsGranted();
        clientGrantsFromTwoHundred();
        clientGrantsBehindThatReply();
        requestsAreDoneAsTheyCome();
        repliesInTheirOrder();
        creditForTheFirstReply();
        longestRowOfReplies();
        serverGrantsFromTwoHundred();
        serverGrantsForRepliesThatWentOut();
        looksBehindEachPacket();
        requestsAtThreeThousand();
        clientsGrantAtThreeThousand();
        repliesAtThreeThousand();
        serversGrantAtThreeThousand();
        neverWithoutAlterations();
        CHECK.end();
    }

    private static void sides() {
        CHECK.sentence("Promise 10", "IndexOutOfBoundsException.");
        Pair pair = Pair.opened(CHECK, 1);
        for (int side : new int[] {-1, 2, Integer.MIN_VALUE, Integer.MAX_VALUE}) {
            pair.refused("credit(" + side + ")", () -> pair.credit(side), Pair.THROWN);
        }
        CHECK.due("credit(0)", pair.credit(0), 400);
        CHECK.due("credit(1)", pair.credit(1), 400);
    }

    private static void creditIsOfOpenSides() {
        CHECK.sentence("Promise 10",
            "How many bytes a side (0 the client, 1 the server) may send; 0 when it is not open.");
        Pair pair = new Pair(CHECK);
        credits("no connection", pair, 0, 0);
        pair.connect(1);
        credits("agreeing", pair, 0, 0);
        pair.move(0, 31);
        credits("31 bytes came", pair, 0, 0);
        pair.move(0, 1);
        credits("the server is open", pair, 0, 400);
        pair.move(1, 95);
        credits("95 bytes came", pair, 0, 400);
        pair.move(1, 1);
        credits("both are open", pair, 400, 400);
        pair.askMany(2, 8);
        pair.move(0, 64);
        credits("spent", pair, 356, 391);
        pair.fault(0, 5);
        credits("the server is over", pair, 356, 0);
        pair.fault(1, 5);
        credits("both are over", pair, 0, 0);
        pair.open(1);
        credits("anew", pair, 400, 400);
        pair.losePower();
        credits("no power", pair, 378, 0);
        pair.start();
        credits("power, but no connection", pair, 378, 0);
        pair.close();
        credits("closed", pair, 0, 0);
    }

    private static void credits(String when, Pair pair, int client, int server) {
        CHECK.due("credit(0), " + when, pair.credit(0), client);
        CHECK.due("credit(1), " + when, pair.credit(1), server);
    }

    private static void clientsFourHundredBytes() {
        CHECK.sentence("Terms", "Each side may send 400 bytes of payloads of requests or replies");
        Pair pair = Pair.opened(CHECK, 1);
        for (int i = 1; i <= 18; i++) {
            CHECK.due("ask", pair.ask(8, 0, 0, 0, 0), i);
            CHECK.due("credit(0)", pair.credit(0), 400 - 22 * i);
        }
        pair.refused("ask with 4 left", () -> pair.ask(8, 0, 0, 0, 0), GuardedTree.NONE);
        Pair other = Pair.opened(CHECK, 1);
        other.askMany(4, 4);
        CHECK.due("credit(0)", other.credit(0), 56);
        other.refused("WRITE of 35 with 56 left", () -> other.ask(4, 1, 0, 35, 0), GuardedTree.NONE);
        CHECK.due("WRITE of 34 with 56 left", other.ask(4, 1, 0, 34, 0), 5);
        CHECK.due("credit(0)", other.credit(0), 0);
        other.refused("ask with nothing left", () -> other.ask(8, 0, 0, 0, 0), GuardedTree.NONE);
    }

    private static void serversFourHundredBytes() {
        CHECK.sentence("Terms", "Each side may send 400 bytes of payloads of requests or replies");
        for (int last : new int[] {26, 27}) {
            Pair pair = Pair.withFile(CHECK);
            pair.askMany(5, 3);
            pair.ask(3, 1, 0, last, 0);
            pair.move(0, Pair.ALL);
            CHECK.due("credit(1), a sixth reply of " + (9 + last), pair.credit(1), last == 26 ? 0 : 35);
            CHECK.due("way(1)", pair.way(1), 5 * 128 + (last == 26 ? 80 : 0));
        }
    }

    private static void grantsCostNothing() {
        CHECK.sentence("Terms", "(grants cost nothing)");
        Pair pair = Pair.opened(CHECK, 1);
        pair.askMany(10, 8);
        pair.move(0, Pair.ALL);
        CHECK.due("way(1), ten replies and a grant", pair.way(1), 10 * 64 + 48);
        CHECK.due("credit(1)", pair.credit(1), 400 - 10 * 9);
        pair = Pair.withFile(CHECK);
        pair.askMany(3, 3);
        pair.move(0, Pair.ALL);
        pair.move(1, Pair.ALL);
        CHECK.due("way(0), a grant", pair.way(0), 48);
        CHECK.due("credit(0)", pair.credit(0), 400 - 3 * 22);
    }

    private static void asMuchMoreAsGranted() {
        CHECK.sentence("Terms", "and as much more as it is granted");
        Pair pair = Pair.opened(CHECK, 1);
        pair.askMany(18, 8);
        pair.move(0, Pair.ALL);
        pair.move(1, 10 * 64 + 47);
        CHECK.due("credit(0) before the grant's last byte", pair.credit(0), 4);
        CHECK.due("ask", pair.ask(8, 0, 0, 0, 0), GuardedTree.NONE);
        pair.move(1, 1);
        CHECK.due("credit(0) behind it", pair.credit(0), 4 + 220);
        for (int i = 1; i <= 10; i++) {
            CHECK.due("ask", pair.ask(8, 0, 0, 0, 0), 18 + i);
        }
        CHECK.due("credit(0)", pair.credit(0), 4);
        CHECK.due("ask", pair.ask(8, 0, 0, 0, 0), GuardedTree.NONE);
    }

    private static void clientGrantsFromTwoHundred() {
        CHECK.sentence("Terms", "when those opened since its last grant had 200 bytes or more, it grants as much");
        for (int last : new int[] {44, 45}) {
            Pair pair = Pair.withFile(CHECK);
            pair.done(3, 1, 0, 64);
            pair.done(3, 1, 0, 64);
            CHECK.due("way(0) with 146", pair.way(0), 0);
            pair.done(3, 1, 0, last);
            CHECK.due("way(0) with " + (155 + last), pair.way(0), last == 45 ? 48 : 0);
            pair.move(0, 47);
            CHECK.due("credit(1) before its last byte", pair.credit(1), 400 - 155 - last);
            pair.move(0, 1);
            CHECK.due("credit(1)", pair.credit(1), last == 45 ? 400 : 201);
            pair.done(8, 1, 0, 0);
            CHECK.due("way(0), a reply more", pair.way(0), last == 45 ? 0 : 48);
        }
    }

    private static void clientGrantsBehindThatReply() {
        CHECK.sentence("Terms", "The client opens replies as they come");
        Pair pair = Pair.withFile(CHECK);
        pair.askMany(4, 3);
        pair.move(0, Pair.ALL);
        pair.move(1, 3 * 128 - 1);
        CHECK.due("way(0) before the third reply's last byte", pair.way(0), 0);
        pair.move(1, 1);
        CHECK.due("way(0) behind it", pair.way(0), 48);
        CHECK.due("how much", Flow.word(pair.model.lastSent[0], 1), 219);
        pair.lookAtAll(0, 0);
        pair.move(1, Pair.ALL);
        CHECK.due("way(0) behind the fourth", pair.way(0), 48);
        pair.move(0, 48);
        CHECK.due("credit(1)", pair.credit(1), 400 - 73);
    }

    private static void requestsAreDoneAsTheyCome() {
        CHECK.sentence("Terms", "The server does requests as they come, in their order");
        Pair pair = Pair.withFile(CHECK);
        pair.askMany(6, 3);
        pair.put(-1);
        pair.ask(4, 1, 0, 4, 0);
        pair.ask(3, 1, 0, 4, 0);
        pair.move(0, Pair.ALL);
        CHECK.due("way(1), the sixth READ and what is behind it wait", pair.way(1), 5 * 128);
        CHECK.due("changes(), the WRITE is done", pair.changes(), 3);
        pair.moveAll();
        pair.moveAll();
        CHECK.due("status(8)", pair.status(8), 64);
        CHECK.due("data(8, 0), as it was before the WRITE", pair.data(8, 0), 0);
        CHECK.due("status(9)", pair.status(9), 4);
        CHECK.due("data(10, 0), as it is behind the WRITE", pair.data(10, 0), 255);
    }

    private static void repliesInTheirOrder() {
        CHECK.sentence("Terms", "in their order; their replies wait in a row, and go out one by one");
        Pair pair = Pair.withFile(CHECK);
        pair.askMany(6, 3);
        pair.ask(8, 1, 0, 0, 0);
        pair.move(0, Pair.ALL);
        CHECK.due("way(1), five went out", pair.way(1), 5 * 128);
        CHECK.due("credit(1), enough for the seventh", pair.credit(1), 35);
        pair.move(1, 3 * 128);
        pair.move(0, Pair.ALL);
        CHECK.due("way(1), two more went out", pair.way(1), 3 * 128 + 64);
        CHECK.due("credit(1)", pair.credit(1), 35 + 219 - 73 - 9);
        pair.moveAll();
        for (int id = 3; id <= 8; id++) {
            CHECK.due("status(" + id + ")", pair.status(id), 64);
        }
        CHECK.due("status(9)", pair.status(9), 2);
    }

    private static void creditForTheFirstReply() {
        CHECK.sentence("Terms", "as long as there is credit for the first one");
        for (int amount : new int[] {37, 38}) {
            Pair pair = Pair.withFile(CHECK);
            pair.askMany(7, 3);
            pair.move(0, 6 * 64);
            CHECK.due("credit(1), 73 are needed", pair.credit(1), 35);
            pair.forgePayload(0, Flow.grant(amount));
            pair.move(0, 64);
            CHECK.due("credit(1), " + amount + " more", pair.credit(1), amount == 38 ? 0 : 72);
            CHECK.due("way(1)", pair.way(1), (amount == 38 ? 6 : 5) * 128);
        }
    }

    /** When the server has granted all back and spent all credit, 18 requests (396 bytes) can wait at once. */
    private static void longestRowOfReplies() {
        CHECK.sentence("Terms", "their replies wait in a row, and go out one by one");
        Pair pair = Pair.withFile(CHECK);
        pair.askMany(4, 3);
        pair.askMany(10, 8);
        pair.move(0, Pair.ALL);
        grantClient(pair, 14 * 22, 128);
        pair.ask(4, 9, 0, 64, 0);
        pair.ask(4, 9, 0, 64, 0);
        pair.move(0, Pair.ALL);
        CHECK.due("credit(1)", pair.credit(1), 0);
        CHECK.due("way(1), 15 replies and two grants", pair.way(1), 3 * 128 + 12 * 64 + 2 * 48);
        grantClient(pair, 2 * 86, 128);
        for (int i = 0; i < 18; i++) {
            pair.ask(8, 1, i % 3, 0, 0);
        }
        pair.move(0, Pair.ALL);
        CHECK.due("server(), 18 wait", pair.server(), 2);
        CHECK.due("way(1)", pair.way(1), 2 * 128 + 12 * 64 + 2 * 48);
        pair.move(1, 2 * 128 + 6 * 64);
        CHECK.due("way(0), a grant of 200", pair.way(0), 48);
        int before = pair.way(1);
        pair.move(0, 48);
        CHECK.due("credit(1)", pair.credit(1), 200 - 18 * 9);
        CHECK.due("way(1), 18 replies and a grant", pair.way(1), before + 18 * 64 + 48);
        pair.lookAtAll(1, pair.way(1) - 64);
    }

    private static void serverGrantsFromTwoHundred() {
        CHECK.sentence("Terms",
            "requests whose replies went out since its last grant had 200 bytes or more, it grants as much");
        for (int last : new int[] {1, 2}) {
            Pair pair = Pair.opened(CHECK, 1);
            pair.askMany(8, 8);
            pair.ask(4, 9, 0, last, 0);
            pair.move(0, Pair.ALL);
            CHECK.due("way(1) with " + (198 + last), pair.way(1), 9 * 64 + (last == 2 ? 48 : 0));
            pair.ask(8, 0, 0, 0, 0);
            pair.move(0, Pair.ALL);
            CHECK.due("way(1), a reply more", pair.way(1), 10 * 64 + 48);
            CHECK.due("how much", last == 2 || Flow.word(pair.model.lastSent[1], 1) == 221, true);
            pair.move(1, Pair.ALL);
            CHECK.due("credit(0)", pair.credit(0), last == 2 ? 378 : 400);
        }
    }

    private static void serverGrantsForRepliesThatWentOut() {
        CHECK.sentence("Terms", "requests whose replies went out");
        Pair pair = Pair.withFile(CHECK);
        pair.askMany(18, 3);
        pair.move(0, Pair.ALL);
        CHECK.due("way(1), 396 bytes came, 110 were answered", pair.way(1), 5 * 128);
        pair.move(1, 3 * 128);
        pair.move(0, Pair.ALL);
        CHECK.due("way(1), 176 were answered", pair.way(1), 5 * 128);
        pair.move(1, 3 * 128);
        pair.move(0, Pair.ALL);
        CHECK.due("way(1), the tenth reply, the grant, and the eleventh", pair.way(1), 5 * 128 + 48);
        CHECK.due("credit(1)", pair.credit(1), 400 + 2 * 219 - 11 * 73);
    }

    private static void looksBehindEachPacket() {
        CHECK.sentence("Terms", "Behind each packet that it opened it looks which replies can go.");
        Pair pair = Pair.withFile(CHECK);
        pair.askMany(6, 3);
        pair.move(0, Pair.ALL);
        pair.move(1, 3 * 128);
        pair.move(0, 47);
        CHECK.due("way(1) before the grant's last byte", pair.way(1), 2 * 128);
        pair.move(0, 1);
        CHECK.due("way(1) behind it", pair.way(1), 3 * 128);
        pair.ask(8, 0, 0, 0, 0);
        pair.move(0, 63);
        CHECK.due("way(1) before a request's last byte", pair.way(1), 3 * 128);
        pair.move(0, 1);
        CHECK.due("way(1) behind it", pair.way(1), 3 * 128 + 64);
    }

    /** The first reply on the way to the client comes to it as a grant that nobody gave. */
    private static void grantClient(Pair pair, int amount, int bytes) {
        pair.forgePayload(1, Flow.grant(amount));
        pair.move(1, bytes);
        CHECK.due("client(), a forged grant", pair.client(), 2);
    }

    private static void requestsAtThreeThousand() {
        CHECK.sentence("Terms",
            "A side sends nothing while 3000 bytes or more are on the way from it: requests are refused");
        Pair pair = Pair.opened(CHECK, 1);
        for (int i = 0; i < 2; i++) {
            pair.askMany(18, 8);
            pair.move(0, 64);
            grantClient(pair, 396, 64);
        }
        pair.askMany(12, 8);
        CHECK.due("way(0)", pair.way(0), 46 * 64);
        CHECK.due("ask at 2944", pair.ask(8, 0, 0, 0, 0), 49);
        pair.put(1);
        CHECK.due("way(0)", pair.way(0), 3008);
        CHECK.due("ask at 3008", pair.ask(8, 0, 0, 0, 0), GuardedTree.NONE);
        CHECK.due("WRITE at 3008", pair.ask(4, 0, 0, 1, 0), GuardedTree.NONE);
        CHECK.due("the data stays", pair.put(1), 2);
        CHECK.due("there is credit", pair.credit(0), 400 - 13 * 22);
        pair.move(0, 8);
        CHECK.due("ask at 3000", pair.ask(8, 0, 0, 0, 0), GuardedTree.NONE);
        CHECK.due("way(0)", pair.way(0), 3000);
        CHECK.due("credit(0)", pair.credit(0), 400 - 13 * 22);
        CHECK.due("status(50)", pair.status(50), GuardedTree.UNKNOWN);
        pair.move(0, 1);
        CHECK.due("ask at 2999", pair.ask(8, 0, 0, 0, 0), 50);
        CHECK.due("way(0)", pair.way(0), 3063);
    }

    /** 47 reads on the way to the server, and three replies of 73 bytes on the way to the client. */
    private static Pair crowdedToServer() {
        Pair pair = Pair.withFile(CHECK);
        pair.askMany(18, 3);
        pair.move(0, 64);
        grantClient(pair, 396, 128);
        pair.askMany(18, 3);
        pair.move(0, 4 * 64);
        grantClient(pair, 396, 128);
        pair.askMany(16, 3);
        CHECK.due("way(0)", pair.way(0), 47 * 64);
        CHECK.due("way(1)", pair.way(1), 3 * 128);
        return pair;
    }

    private static void clientsGrantAtThreeThousand() {
        CHECK.sentence("Terms", "and a grant comes behind a later reply, with all there is to grant by then");
        Pair below = crowdedToServer();
        below.move(0, 9);
        below.move(1, 3 * 128);
        CHECK.due("way(0), 219 bytes opened at 2999", below.way(0), 2999 + 48);
        Pair pair = crowdedToServer();
        pair.move(0, 8);
        pair.move(1, 3 * 128);
        CHECK.due("way(0), 219 bytes opened at 3000", pair.way(0), 3000);
        pair.move(0, 56);
        CHECK.due("way(0), nothing goes by itself", pair.way(0), 46 * 64);
        pair.forgePayload(0, Flow.grant(100));
        pair.move(0, 64);
        CHECK.due("way(1), a later reply", pair.way(1), 128);
        pair.move(1, 128);
        CHECK.due("way(0), the grant behind it", pair.way(0), 45 * 64 + 48);
        CHECK.due("how much", Flow.word(pair.model.lastSent[0], 1), 4 * 73);
        pair.lookAtAll(0, 45 * 64);
        CHECK.due("client()", pair.client(), 2);
    }

    /** 45 replies of 9 bytes (two of them taken away) and four grants on the way to the client; 110 bytes to grant. */
    private static Pair crowdedToClient() {
        Pair pair = Pair.opened(CHECK, 1);
        for (int i = 0; i < 2; i++) {
            pair.askMany(18, 8);
            pair.move(0, Pair.ALL);
            grantClient(pair, 396, 64);
        }
        pair.ask(8, 0, 0, 0, 0);
        pair.forgePayload(0, Flow.grant(36 * 9));
        pair.askMany(9, 8);
        pair.move(0, Pair.ALL);
        CHECK.due("way(1)", pair.way(1), 43 * 64 + 4 * 48);
        CHECK.due("server()", pair.server(), 2);
        return pair;
    }

    /** A request comes to the server. */
    private static void serve(Pair pair, int count) {
        for (int i = 0; i < count; i++) {
            pair.ask(8, 0, 0, 0, 0);
            pair.move(0, 64);
        }
    }

    private static void repliesAtThreeThousand() {
        CHECK.sentence("Terms", "replies wait");
        Pair pair = crowdedToClient();
        serve(pair, 1);
        CHECK.due("way(1), a reply at 2944", pair.way(1), 3008);
        pair.move(1, 8);
        int credit = pair.credit(1);
        serve(pair, 1);
        CHECK.due("way(1), it waits at 3000", pair.way(1), 3000);
        CHECK.due("credit(1)", pair.credit(1), credit);
        pair.move(1, 1);
        CHECK.due("way(1), nothing goes by itself", pair.way(1), 2999);
        serve(pair, 1);
        CHECK.due("way(1), one goes at 2999, the next one waits", pair.way(1), 3063);
        CHECK.due("credit(1)", pair.credit(1), credit - 9);
        pair.move(1, 2 * 64);
        serve(pair, 1);
        CHECK.due("way(1), one goes at 2935 and one at 2999", pair.way(1), 3063);
        CHECK.due("credit(1)", pair.credit(1), credit - 3 * 9);
    }

    private static void serversGrantAtThreeThousand() {
        CHECK.sentence("Terms", "and a grant comes behind a later reply, with all there is to grant by then");
        Pair below = crowdedToClient();
        below.move(1, 4 * 64 + 9);
        serve(below, 5);
        CHECK.due("way(1), 220 bytes to grant at 2999", below.way(1), 2999 + 48);
        CHECK.due("how much", Flow.word(below.model.lastSent[1], 1), 220);
        Pair pair = crowdedToClient();
        pair.move(1, 4 * 64 + 8);
        serve(pair, 5);
        CHECK.due("way(1), 220 bytes to grant at 3000", pair.way(1), 3000);
        pair.move(1, 65);
        CHECK.due("way(1), nothing goes by itself", pair.way(1), 3000 - 65);
        serve(pair, 1);
        CHECK.due("way(1), a reply and the grant", pair.way(1), 3000 - 1 + 48);
        CHECK.due("how much", Flow.word(pair.model.lastSent[1], 1), 242);
        pair.lookAtAll(1, 2999);
    }

    private static void neverWithoutAlterations() {
        CHECK.sentence("Terms", "(Without alterations it never comes to that.)");
        Pair pair = Pair.opened(CHECK, 1);
        while (pair.credit(0) >= 22) {
            pair.ask(8, 0, 0, 0, 0);
        }
        CHECK.due("way(0), all credit in the smallest requests", pair.way(0), 18 * 64);
        pair.move(0, Pair.ALL);
        CHECK.due("way(1), all their replies and a grant", pair.way(1), 18 * 64 + 48);
    }
}
