/** What it is: an object is used for at most 512 calls, and the last of them answers as the first. */
final class CallsTest {
    private static final Check CHECK = new Check("CallsTest");
    private static final int MOST = 512;

    public static void main(String[] args) {
        mostRequests();
        mostConnections();
        mostPuts();
        CHECK.end();
    }

    private static void sentence() {
        CHECK.sentence("What it is", "An object is used for at most 512 calls after it has been made");
    }

    /** As many requests as 512 calls can bring forth; the last calls tell what came of the first and the last. */
    private static void mostRequests() {
        sentence();
        Pair pair = Pair.opened(CHECK, 1);
        while (pair.calls() < MOST - 20) {
            pair.askMany(10, 8);
            pair.move(0, Pair.ALL);
            pair.move(1, Pair.ALL);
        }
        int last = pair.model.asked();
        CHECK.due("requests went out", last >= 400, true);
        while (pair.calls() < MOST - 4) {
            CHECK.due("status of the last", pair.status(last), GuardedTree.NO_NODE);
        }
        CHECK.due("status(1)", pair.status(1), GuardedTree.NO_NODE);
        CHECK.due("ask", pair.ask(8, 0, 0, 0, 0), last + 1);
        CHECK.due("status, asked", pair.status(last + 1), GuardedTree.PENDING);
        CHECK.due("the 512th call", pair.status(last + 2), GuardedTree.UNKNOWN);
        CHECK.due("calls", pair.calls(), MOST);
    }

    private static void mostConnections() {
        sentence();
        Pair pair = new Pair(CHECK);
        for (int i = 1; i <= MOST; i++) {
            CHECK.due("connect", pair.connect(i), i);
        }
    }

    private static void mostPuts() {
        sentence();
        Pair pair = new Pair(CHECK);
        for (int i = 1; i <= MOST; i++) {
            CHECK.due("put", pair.put(i), i <= 16 ? i : GuardedTree.NONE);
        }
    }
}
