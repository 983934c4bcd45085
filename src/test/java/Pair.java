import java.util.ArrayList;
import java.util.Arrays;
import java.util.List;
import java.util.function.IntSupplier;

/**
 * An object of the class and the model beside it: each call goes to both, and an answer that differs is told.
 * A call that throws what the document says answers THROWN.
 */
final class Pair {
    static final int THROWN = Model.THROWN;
    static final int ALL = 9999;

    final GuardedTree tree = new GuardedTree();
    final Model model = new Model();
    private final Check check;
    private int calls;

    Pair(Check check) {
        this.check = check;
    }

    int calls() {
        return calls;
    }

    /** A pair with both sides open. */
    static Pair opened(Check check, int seed) {
        Pair pair = new Pair(check);
        pair.open(seed);
        return pair;
    }

    /** A pair with both sides open, of whose credits nothing is spent, and a file 1 of 64 bytes in the root. */
    static Pair withFile(Check check) {
        Pair pair = opened(check, 1);
        pair.done(2, 0, 1, 1);
        pair.done(4, 1, 0, 64);
        pair.open(1);
        return pair;
    }

    private int same(String call, int got, int want) {
        calls++;
        if (calls == 513) {
            check.fail("a test makes more than 512 calls on one object");
        }
        check.due(call + " (call " + calls + ")", got, want);
        return got;
    }

    /** Exactly what the document says is thrown, not an exception below it that came by itself. */
    private static int thrown(RuntimeException e, Class<?> due) {
        return e.getClass() == due ? THROWN : THROWN + 1;
    }

    int connect(int seed) {
        return same("connect(" + seed + ")", tree.connect(seed), model.connect(seed));
    }

    void close() {
        tree.close();
        model.close();
        calls++;
    }

    int client() {
        return same("client()", tree.client(), model.client());
    }

    int server() {
        return same("server()", tree.server(), model.server());
    }

    int put(int v) {
        return same("put(" + v + ")", tree.put(v), model.put(v));
    }

    int ask(int kind, int a, int b, int c, int d) {
        int got;
        try {
            got = tree.ask(kind, a, b, c, d);
        } catch (IllegalArgumentException e) {
            got = thrown(e, IllegalArgumentException.class);
        }
        return same("ask" + Arrays.toString(new int[] {kind, a, b, c, d}), got, model.ask(kind, a, b, c, d));
    }

    int status(int id) {
        return same("status(" + id + ")", tree.status(id), model.status(id));
    }

    int data(int id, int i) {
        int got;
        try {
            got = tree.data(id, i);
        } catch (IndexOutOfBoundsException e) {
            got = thrown(e, IndexOutOfBoundsException.class);
        }
        return same("data(" + id + ", " + i + ")", got, model.data(id, i));
    }

    int credit(int side) {
        int got;
        try {
            got = tree.credit(side);
        } catch (IndexOutOfBoundsException e) {
            got = thrown(e, IndexOutOfBoundsException.class);
        }
        return same("credit(" + side + ")", got, model.credit(side));
    }

    int way(int dir) {
        int got;
        try {
            got = tree.way(dir);
        } catch (IndexOutOfBoundsException e) {
            got = thrown(e, IndexOutOfBoundsException.class);
        }
        return same("way(" + dir + ")", got, model.way(dir));
    }

    int octet(int dir, int i) {
        int got;
        try {
            got = tree.octet(dir, i);
        } catch (IndexOutOfBoundsException e) {
            got = thrown(e, IndexOutOfBoundsException.class);
        }
        return same("octet(" + dir + ", " + i + ")", got, model.octet(dir, i));
    }

    int alter(int dir, int i, int mask) {
        int got = 0;
        try {
            tree.alter(dir, i, mask);
        } catch (IndexOutOfBoundsException e) {
            got = thrown(e, IndexOutOfBoundsException.class);
        }
        return same("alter(" + dir + ", " + i + ", " + mask + ")", got, model.alter(dir, i, mask));
    }

    int move(int dir, int n) {
        int got;
        try {
            got = tree.move(dir, n);
        } catch (IndexOutOfBoundsException e) {
            got = thrown(e, IndexOutOfBoundsException.class);
        }
        return same("move(" + dir + ", " + n + ")", got, model.move(dir, n));
    }

    boolean cut(int n, int tear) {
        return same("cut(" + n + ", " + tear + ")", tree.cut(n, tear) ? 1 : 0, model.cut(n, tear) ? 1 : 0) == 1;
    }

    int start() {
        return same("start()", tree.start(), model.start());
    }

    int changes() {
        return same("changes()", tree.changes(), model.changes());
    }

    /** A connection with both sides open. */
    void open(int seed) {
        connect(seed);
        move(0, ALL);
        move(1, ALL);
    }

    /** All that is on the way comes. */
    void moveAll() {
        move(0, ALL);
        move(1, ALL);
        move(0, ALL);
    }

    /** What comes of a request at once. */
    int done(int kind, int a, int b, int c, int d) {
        int id = ask(kind, a, b, c, d);
        move(0, ALL);
        move(1, ALL);
        return status(id);
    }

    int done(int kind, int a, int b, int c) {
        return done(kind, a, b, c, 0);
    }

    /** So many requests of the same kind, for file or directory 1. */
    void askMany(int count, int kind) {
        for (int i = 0; i < count; i++) {
            ask(kind, 1, 0, 64, 0);
        }
    }

    /** Power goes at a request that would take the least free node for a directory. */
    void losePower() {
        cut(0, 0);
        ask(1, 0, 99, 99, 0);
        move(0, ALL);
        check.due("server(), power is lost", server(), GuardedTree.NO_POWER);
    }

    /** Every byte on the way, from one on. */
    void lookAtAll(int dir, int from) {
        int count = way(dir);
        for (int i = from; i < count; i++) {
            octet(dir, i);
        }
    }

    /** The packet of 64 bytes that is next on the way comes to its side altered, so that this has a fault (4 to 7). */
    void fault(int dir, int fault) {
        if (fault <= 5) {
            alter(dir, fault == 4 ? 0 : 63, 128);
        } else {
            byte[] plain = model.opener(dir).mask(Arrays.copyOf(model.ways[dir], 32));
            plain[4] = (byte) (fault == 6 ? 3 : 27);
            forge(dir, plain);
        }
        move(dir, 64);
    }

    /** What can be seen without changing anything (of a long way its beginning). */
    List<Integer> seen() {
        List<Integer> row = new ArrayList<>(List.of(client(), server(), changes(), credit(0), credit(1)));
        for (int dir = 0; dir <= 1; dir++) {
            int count = way(dir);
            row.add(count);
            for (int i = 0; i < Math.min(count, 70); i++) {
                row.add(octet(dir, i));
            }
        }
        int last = model.asked();
        for (int id = Math.max(0, last - 20); id <= last + 1; id++) {
            row.add(status(id));
            row.add(data(id, 0));
        }
        return row;
    }

    /** A call that is to be refused: it answers so, and all that can be seen is as it was. */
    void refused(String what, IntSupplier call, int want) {
        List<Integer> before = seen();
        check.due(what, call.getAsInt(), want);
        check.due(what + " changes nothing", before.equals(seen()), true);
    }

    /** What can be seen only by changing something: words that were put, next numbers, the tree, what is set to go. */
    void goOn() {
        put(0x01020304);
        moveAll();
        lookAtSides();
        start();
        open(-5);
        lookAtSides();
        done(9, 0, 0, 0);
        done(2, 0, 77, 77);
        done(4, 1, 0, 64);
        int id = ask(3, 1, 0, 64, 0);
        moveAll();
        for (int i = 0; i < 64; i += 4) {
            data(id, i + 3);
        }
        put(1);
        lookAtSides();
    }

    private void lookAtSides() {
        client();
        server();
        changes();
        for (int side = 0; side <= 1; side++) {
            credit(side);
            way(side);
        }
    }

    /** Alters the bytes on the way into others, from the first one on. */
    void overwrite(int dir, byte[] row) {
        byte[] now = model.ways[dir];
        for (int i = 0; i < row.length; i++) {
            int mask = (now[i] ^ row[i]) & 255;
            if (mask != 0) {
                alter(dir, i, mask);
            }
        }
    }

    /** Alters the first bytes on the way into a packet with a good seal. */
    void forge(int dir, byte[] plain) {
        overwrite(dir, model.opener(dir).packet(plain));
    }

    /**
     * Alters the first packet on the way into one of the same size with another payload (and the old padding),
     * if it is long enough.
     */
    void forgePayload(int dir, byte[] payload) {
        byte[] row = model.ways[dir];
        int whole = 4 + Flow.word(model.opener(dir).mask(Arrays.copyOf(row, 16)), 0);
        if (whole < 5 + payload.length || whole + 32 > row.length) {
            return;
        }
        byte[] plain = model.opener(dir).mask(Arrays.copyOf(row, whole));
        plain[4] = (byte) (whole - 5 - payload.length);
        System.arraycopy(payload, 0, plain, 5, payload.length);
        forge(dir, plain);
    }
}
