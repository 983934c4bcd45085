import java.util.Arrays;

/**
 * An object of the class and the model beside it: each call goes to both, and an answer that differs is told.
 * A call that throws what the document says answers THROWN.
 */
final class Pair {
    static final int THROWN = Model.THROWN;
    static final int ALL = 9999;

    final GuardedTree tree = new GuardedTree();
    final Model model = new Model();
    private final Check check;
    private int calls;

    Pair(Check check) {
        this.check = check;
    }

    int calls() {
        return calls;
    }

    private int same(String call, int got, int want) {
        calls++;
        if (calls == 513) {
            check.fail("a test makes more than 512 calls on one object");
        }
        check.due(call + " (call " + calls + ")", got, want);
        return got;
    }

    /** Exactly what the document says is thrown, not an exception below it that came by itself. */
    private static int thrown(RuntimeException e, Class<?> due) {
        return e.getClass() == due ? THROWN : THROWN + 1;
    }

    int connect(int seed) {
        return same("connect(" + seed + ")", tree.connect(seed), model.connect(seed));
    }

    void close() {
        tree.close();
        model.close();
        calls++;
    }

    int client() {
        return same("client()", tree.client(), model.client());
    }

    int server() {
        return same("server()", tree.server(), model.server());
    }

    int put(int v) {
        return same("put(" + v + ")", tree.put(v), model.put(v));
    }

    int ask(int kind, int a, int b, int c, int d) {
        int got;
        try {
            got = tree.ask(kind, a, b, c, d);
        } catch (IllegalArgumentException e) {
            got = thrown(e, IllegalArgumentException.class);
        }
        return same("ask" + Arrays.toString(new int[] {kind, a, b, c, d}), got, model.ask(kind, a, b, c, d));
    }

    int status(int id) {
        return same("status(" + id + ")", tree.status(id), model.status(id));
    }

    int data(int id, int i) {
        int got;
        try {
            got = tree.data(id, i);
        } catch (IndexOutOfBoundsException e) {
            got = thrown(e, IndexOutOfBoundsException.class);
        }
        return same("data(" + id + ", " + i + ")", got, model.data(id, i));
    }

    int credit(int side) {
        int got;
        try {
            got = tree.credit(side);
        } catch (IndexOutOfBoundsException e) {
            got = thrown(e, IndexOutOfBoundsException.class);
        }
        return same("credit(" + side + ")", got, model.credit(side));
    }

    int way(int dir) {
        int got;
        try {
            got = tree.way(dir);
        } catch (IndexOutOfBoundsException e) {
            got = thrown(e, IndexOutOfBoundsException.class);
        }
        return same("way(" + dir + ")", got, model.way(dir));
    }

    int octet(int dir, int i) {
        int got;
        try {
            got = tree.octet(dir, i);
        } catch (IndexOutOfBoundsException e) {
            got = thrown(e, IndexOutOfBoundsException.class);
        }
        return same("octet(" + dir + ", " + i + ")", got, model.octet(dir, i));
    }

    int alter(int dir, int i, int mask) {
        int got = 0;
        try {
            tree.alter(dir, i, mask);
        } catch (IndexOutOfBoundsException e) {
            got = thrown(e, IndexOutOfBoundsException.class);
        }
        return same("alter(" + dir + ", " + i + ", " + mask + ")", got, model.alter(dir, i, mask));
    }

    int move(int dir, int n) {
        int got;
        try {
            got = tree.move(dir, n);
        } catch (IndexOutOfBoundsException e) {
            got = thrown(e, IndexOutOfBoundsException.class);
        }
        return same("move(" + dir + ", " + n + ")", got, model.move(dir, n));
    }

    boolean cut(int n, int tear) {
        return same("cut(" + n + ", " + tear + ")", tree.cut(n, tear) ? 1 : 0, model.cut(n, tear) ? 1 : 0) == 1;
    }

    int start() {
        return same("start()", tree.start(), model.start());
    }

    int changes() {
        return same("changes()", tree.changes(), model.changes());
    }

    /** A connection with both sides open. */
    void open(int seed) {
        connect(seed);
        move(0, ALL);
        move(1, ALL);
    }

    /** All that is on the way comes. */
    void moveAll() {
        move(0, ALL);
        move(1, ALL);
        move(0, ALL);
    }

    /** What comes of a request at once. */
    int done(int kind, int a, int b, int c, int d) {
        int id = ask(kind, a, b, c, d);
        move(0, ALL);
        move(1, ALL);
        return status(id);
    }

    int done(int kind, int a, int b, int c) {
        return done(kind, a, b, c, 0);
    }

    /** Alters the bytes on the way into others, from the first one on. */
    void overwrite(int dir, byte[] row) {
        byte[] now = model.ways[dir];
        for (int i = 0; i < row.length; i++) {
            int mask = (now[i] ^ row[i]) & 255;
            if (mask != 0) {
                alter(dir, i, mask);
            }
        }
    }

    /** Alters the first bytes on the way into a packet with a good seal. */
    void forge(int dir, byte[] plain) {
        overwrite(dir, model.opener(dir).packet(plain));
    }

    /**
     * Alters the first packet on the way into one of the same size with another payload (and the old padding),
     * if it is long enough.
     */
    void forgePayload(int dir, byte[] payload) {
        byte[] row = model.ways[dir];
        int whole = 4 + Flow.word(model.opener(dir).mask(Arrays.copyOf(row, 16)), 0);
        if (whole < 5 + payload.length || whole + 32 > row.length) {
            return;
        }
        byte[] plain = model.opener(dir).mask(Arrays.copyOf(row, whole));
        plain[4] = (byte) (whole - 5 - payload.length);
        System.arraycopy(payload, 0, plain, 5, payload.length);
        forge(dir, plain);
    }
}
