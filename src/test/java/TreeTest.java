import java.util.ArrayList;
import java.util.Arrays;
import java.util.List;

/** The ten REQUESTS of the tree: what each one answers, and its refusals. */
final class TreeTest {
    private static final Check CHECK = new Check("TreeTest");
    private static final int NO_NODE = GuardedTree.NO_NODE, NOT_DIR = GuardedTree.NOT_DIR, IS_DIR = GuardedTree.IS_DIR;
    private static final int EXISTS = GuardedTree.EXISTS, WRONG = GuardedTree.WRONG, NOT_EMPTY = GuardedTree.NOT_EMPTY;
    private static final int LEAST = Integer.MIN_VALUE, LARGEST = Integer.MAX_VALUE;
    private static final int[] NO_NODES = {-1, 5, 63, 64, LEAST, LARGEST};

    public static void main(String[] args) {
        missingNodes();
        filesAndDirectories();
        firstRefusalCounts();
        refusedChangesNothing();
        lookFinds();
        lookRefuses();
        newNodes();
        newRefuses();
        readTells();
        readRefuses();
        writeDoes();
        writeRefuses();
        cutTells();
        cutRefuses();
        takenAway();
        takingAwayRefuses();
        goes();
        goingRefuses();
        goesIntoItself();
        tells();
        tellingRefuses();
        entriesByNames();
        entriesRefuse();
        CHECK.end();
    }

    /**
     * A tree with directory 1 and file 2 (10 bytes: 1, 2, .. 10) in the root, directory 3 and file 4 (empty) in
     * directory 1; each has its own number twice as its name.
     */
    private static Pair tree() {
        Pair pair = Pair.opened(CHECK, 1);
        pair.done(1, 0, 1, 1);
        pair.done(2, 0, 2, 2);
        pair.done(1, 1, 3, 3);
        pair.done(2, 1, 4, 4);
        pair.put(0x01020304);
        pair.put(0x05060708);
        pair.put(0x090a0000);
        pair.done(4, 2, 0, 10);
        return pair;
    }

    private static void due(Pair pair, int want, int... r) {
        CHECK.due("request " + Arrays.toString(r), pair.done(r[0], r[1], r[2], r[3], r[4]), want);
    }

    /** The bytes of a file from one on, as a READ tells them. */
    private static void bytesDue(Pair pair, int file, int from, int... want) {
        due(pair, want.length, 3, file, from, 64, 0);
        int id = pair.model.asked();
        for (int i = 0; i < want.length; i++) {
            CHECK.due("byte " + (from + i), pair.data(id, i), want[i]);
        }
        CHECK.due("no byte more", pair.data(id, want.length), Pair.THROWN);
    }

    private static void missingNodes() {
        CHECK.sentence("Terms", "NO_NODE: there is no such node");
        for (int node : NO_NODES) {
            Pair pair = tree();
            for (int kind = 0; kind <= 9; kind++) {
                due(pair, NO_NODE, kind, node, 0, 0, 0);
                due(pair, NO_NODE, kind, node, 1, 1, 1);
            }
            CHECK.due("changes()", pair.changes(), 5);
        }
    }

    private static void filesAndDirectories() {
        CHECK.sentence("Terms", "NOT_DIR, IS_DIR: it is a file, a directory");
        Pair pair = tree();
        for (int kind : new int[] {0, 1, 2, 9}) {
            due(pair, NOT_DIR, kind, 2, 9, 9, 0);
            CHECK.due("kind " + kind + " of a directory", pair.done(kind, 3, 9, 9 + kind) != NOT_DIR, true);
        }
        due(pair, NOT_DIR, 7, 1, 2, 9, 9);
        for (int kind : new int[] {3, 4, 5}) {
            due(pair, IS_DIR, kind, 0, 0, 1, 0);
            due(pair, IS_DIR, kind, 3, 0, 1, 0);
            CHECK.due("kind " + kind + " of a file", pair.done(kind, 2, 0, 1) > 0, true);
        }
    }

    /** Requests with more than one refusal: the due one, and the request. */
    private static final int[][] SEVERAL = {
        {NO_NODE, 0, 5, 0, 0, 0}, {NOT_DIR, 0, 2, 9, 9, 0},
        {NO_NODE, 1, 5, 0, 0, 0}, {NOT_DIR, 1, 2, 0, 0, 0}, {WRONG, 1, 0, 0, 0, 0},
        {NO_NODE, 2, 64, 0, 0, 0}, {NOT_DIR, 2, 4, 0, 0, 0}, {WRONG, 2, 1, 0, 0, 0},
        {NO_NODE, 3, 5, -1, 0, 0}, {IS_DIR, 3, 1, -1, 0, 0}, {WRONG, 3, 2, -1, 65, 0},
        {NO_NODE, 4, 5, -1, 0, 0}, {IS_DIR, 4, 1, -1, 0, 0}, {WRONG, 4, 2, 2000, 64, 0}, {WRONG, 4, 2, 1, 65, 0},
        {NO_NODE, 5, 5, -1, 0, 0}, {IS_DIR, 5, 0, -1, 0, 0},
        {NO_NODE, 6, 64, 0, 0, 0}, {WRONG, 6, 0, 0, 0, 0},
        {NO_NODE, 7, 5, 2, 0, 0}, {NO_NODE, 7, 0, 5, 0, 0}, {NOT_DIR, 7, 2, 2, 0, 0}, {NOT_DIR, 7, 0, 2, 0, 0},
        {WRONG, 7, 1, 1, 0, 0}, {EXISTS, 7, 1, 1, 3, 3}, {EXISTS, 7, 0, 0, 1, 1}, {EXISTS, 7, 0, 1, 4, 4},
        {NO_NODE, 8, 5, 3, 0, 0}, {NO_NODE, 9, 5, -1, 0, 0}, {NOT_DIR, 9, 2, -1, 0, 0}};

    private static void firstRefusalCounts() {
        CHECK.sentence("Terms", "of several refusals the first one");
        Pair pair = tree();
        for (int[] one : SEVERAL) {
            due(pair, one[0], one[1], one[2], one[3], one[4], one[5]);
        }
    }

    /** Requests with one refusal: the due one, and the request. */
    private static final int[][] REFUSED = {
        {NO_NODE, 1, 5, 9, 9, 0}, {NOT_DIR, 1, 2, 9, 9, 0}, {WRONG, 1, 0, 0, 0, 0}, {EXISTS, 1, 0, 2, 2, 0},
        {NO_NODE, 2, 5, 9, 9, 0}, {NOT_DIR, 2, 4, 9, 9, 0}, {WRONG, 2, 1, 0, 0, 0}, {EXISTS, 2, 0, 1, 1, 0},
        {NO_NODE, 4, 5, 0, 9, 0}, {IS_DIR, 4, 1, 0, 9, 0}, {WRONG, 4, 2, -1, 9, 0}, {WRONG, 4, 2, 11, 9, 0},
        {WRONG, 4, 2, 0, 0, 0}, {WRONG, 4, 2, 0, 65, 0},
        {NO_NODE, 5, 5, 0, 0, 0}, {IS_DIR, 5, 1, 0, 0, 0}, {WRONG, 5, 2, -1, 0, 0}, {WRONG, 5, 2, 11, 0, 0},
        {NO_NODE, 6, 5, 0, 0, 0}, {WRONG, 6, 0, 0, 0, 0}, {NOT_EMPTY, 6, 1, 0, 0, 0},
        {NO_NODE, 7, 5, 0, 9, 9}, {NO_NODE, 7, 2, 5, 9, 9}, {NOT_DIR, 7, 2, 4, 9, 9}, {WRONG, 7, 2, 1, 0, 0},
        {EXISTS, 7, 2, 1, 4, 4}, {EXISTS, 7, 2, 0, 2, 2}, {WRONG, 7, 1, 1, 9, 9}, {WRONG, 7, 1, 3, 9, 9},
        {WRONG, 7, 0, 1, 9, 9}};

    private static void refusedChangesNothing() {
        CHECK.sentence("Terms", "one that is refused changes nothing");
        List<Integer> before = view(tree());
        for (int[] one : REFUSED) {
            Pair pair = tree();
            pair.put(-1);
            pair.cut(0, 0);
            due(pair, one[0], one[1], one[2], one[3], one[4], one[5]);
            CHECK.due("changes()", pair.changes(), 5);
            CHECK.due("the tree is as it was behind " + Arrays.toString(one), view(pair).equals(before), true);
        }
    }

    /** What the requests that change nothing tell of the first nodes. */
    private static List<Integer> view(Pair pair) {
        List<Integer> row = new ArrayList<>();
        for (int node = 0; node <= 5; node++) {
            for (int b = 0; b <= 2; b++) {
                row.add(pair.done(8, node, b, 0));
            }
            for (int b = 0; b <= 2; b++) {
                row.add(pair.done(9, node, b, 0));
            }
            row.add(pair.done(0, Math.min(node, 1), node, node));
        }
        row.add(pair.done(3, 2, 0, 64));
        int id = pair.model.asked();
        for (int i = 0; i < 10; i++) {
            row.add(pair.data(id, i));
        }
        return row;
    }

    private static void lookFinds() {
        CHECK.sentence("Terms", "0 LOOK: the node in directory a with the name b, c.");
        Pair pair = tree();
        due(pair, 1, 0, 0, 1, 1, 0);
        due(pair, 2, 0, 0, 2, 2, 99);
        due(pair, 3, 0, 1, 3, 3, 0);
        due(pair, 4, 0, 1, 4, 4, 0);
    }

    private static void lookRefuses() {
        CHECK.sentence("Terms", "NO_NODE (also when there is none so named), NOT_DIR.");
        Pair pair = tree();
        int[][] names = {{1, 2}, {2, 1}, {0, 1}, {1, 0}, {0, 0}, {3, 3}, {-1, -1}};
        for (int[] name : names) {
            due(pair, NO_NODE, 0, 0, name[0], name[1], 0);
        }
        due(pair, NO_NODE, 0, 3, 3, 3, 0);
        due(pair, NO_NODE, 0, 5, 1, 1, 0);
        due(pair, NOT_DIR, 0, 2, 2, 2, 0);
        due(pair, NOT_DIR, 0, 4, 0, 0, 0);
    }

    private static void newNodes() {
        CHECK.sentence("Terms", "its node, the least that is free");
        Pair pair = tree();
        due(pair, 10, 6, 2, 0, 0, 0);
        due(pair, 0, 6, 3, 0, 0, 0);
        due(pair, NO_NODE, 8, 2, 0, 0, 0);
        due(pair, 2, 1, 0, 9, 9, 0);
        due(pair, 3, 2, 2, 9, 9, 0);
        due(pair, 5, 2, 2, 9, 8, 0);
        due(pair, 1, 8, 2, 0, 0, 0);
        due(pair, 0, 8, 2, 1, 0, 0);
        due(pair, 2, 8, 3, 0, 0, 0);
        due(pair, 0, 8, 3, 1, 0, 0);
        due(pair, 2, 8, 3, 2, 0, 0);
    }

    private static void newRefuses() {
        CHECK.sentence("Terms", "NO_NODE, NOT_DIR, WRONG (the name is 0, 0), EXISTS, NO_ROOM.");
        for (int kind = 1; kind <= 2; kind++) {
            Pair pair = tree();
            due(pair, NO_NODE, kind, 5, 9, 9, 0);
            due(pair, NOT_DIR, kind, 2, 9, 9, 0);
            due(pair, WRONG, kind, 0, 0, 0, 1);
            due(pair, EXISTS, kind, 0, 1, 1, 0);
            due(pair, EXISTS, kind, 0, 2, 2, 0);
            due(pair, EXISTS, kind, 1, 4, 4, 0);
            CHECK.due("changes()", pair.changes(), 5);
            int[][] names = {{0, 1}, {1, 0}, {1, 2}, {2, 1}, {-1, -1}, {0, -1}, {LEAST, 0}, {3, 3}};
            int node = 5;
            for (int[] name : names) {
                due(pair, node, kind, 0, name[0], name[1], 0);
                node++;
            }
            due(pair, node, kind, 1, 1, 1, 0);
            due(pair, kind, 8, 5, 0, 0, 0);
            due(pair, 1, 8, node, 2, 0, 0);
        }
    }

    private static void readTells() {
        CHECK.sentence("Terms", "how many of these there are (they come with the reply; 0 at its end or behind it)");
        Pair pair = tree();
        bytesDue(pair, 2, 0, 1, 2, 3, 4, 5, 6, 7, 8, 9, 10);
        bytesDue(pair, 2, 7, 8, 9, 10);
        bytesDue(pair, 2, 9, 10);
        bytesDue(pair, 2, 10);
        bytesDue(pair, 2, 11);
        bytesDue(pair, 2, 1024);
        bytesDue(pair, 2, LARGEST);
        bytesDue(pair, 4, 0);
        for (int c : new int[] {1, 9, 10, 11, 64}) {
            due(pair, Math.min(c, 10), 3, 2, 0, c, 0);
        }
        due(pair, 3, 3, 2, 6, 3, 0);
        due(pair, 4, 3, 2, 6, 4, 0);
        due(pair, 4, 3, 2, 6, 5, 0);
    }

    private static void readRefuses() {
        CHECK.sentence("Terms", "NO_NODE, IS_DIR, WRONG (b below 0, c not 1 .. 64).");
        Pair pair = tree();
        due(pair, NO_NODE, 3, 5, 0, 1, 0);
        due(pair, IS_DIR, 3, 0, 0, 1, 0);
        due(pair, IS_DIR, 3, 1, 0, 1, 0);
        due(pair, WRONG, 3, 2, -1, 1, 0);
        due(pair, WRONG, 3, 2, LEAST, 1, 0);
        due(pair, 1, 3, 2, 0, 1, 0);
        for (int c : new int[] {0, -1, 65, LEAST, LARGEST}) {
            due(pair, WRONG, 3, 2, 0, c, 0);
            due(pair, WRONG, 3, 2, 100, c, 0);
            CHECK.due("no bytes come", pair.data(pair.model.asked(), 0), Pair.THROWN);
        }
        due(pair, 10, 3, 2, 0, 64, 0);
    }

    private static void writeDoes() {
        CHECK.sentence("Terms", "4 WRITE into file a from byte b on, c bytes of the data: c.");
        Pair pair = tree();
        pair.put(0x0c0d0e0f);
        due(pair, 2, 4, 2, 5, 2, 0);
        bytesDue(pair, 2, 0, 1, 2, 3, 4, 5, 12, 13, 8, 9, 10);
        pair.put(0x15161718);
        due(pair, 3, 4, 2, 9, 3, 0);
        bytesDue(pair, 2, 7, 8, 9, 0x15, 0x16, 0x17);
        due(pair, 12, 8, 2, 1, 0, 0);
        pair.put(0x20212223);
        due(pair, 1, 4, 2, 12, 1, 0);
        due(pair, 13, 8, 2, 1, 0, 0);
        due(pair, 64, 4, 2, 13, 64, 0);
        due(pair, 1, 4, 2, 77, 1, 0);
        due(pair, 78, 8, 2, 1, 0, 0);
        int[] want = new int[64];
        want[0] = 0x20;
        bytesDue(pair, 2, 12, want);
    }

    private static void writeRefuses() {
        CHECK.sentence("Terms", "WRONG (b not 0 .. its size, c not 1 .. 64)");
        for (int b : new int[] {-1, 11, 12, LEAST, LARGEST, LARGEST - 63}) {
            Pair pair = tree();
            due(pair, WRONG, 4, 2, b, 1, 0);
            due(pair, WRONG, 4, 2, b, 64, 0);
            due(pair, 10, 8, 2, 1, 0, 0);
        }
        for (int c : new int[] {0, -1, 65, LEAST, LARGEST}) {
            Pair pair = tree();
            due(pair, WRONG, 4, 2, 0, c, 0);
            due(pair, WRONG, 4, 2, 10, c, 0);
            due(pair, 10, 8, 2, 1, 0, 0);
        }
        Pair pair = tree();
        due(pair, NO_NODE, 4, 5, 0, 1, 0);
        due(pair, IS_DIR, 4, 1, 0, 1, 0);
        due(pair, WRONG, 4, 4, 1, 1, 0);
        due(pair, 1, 4, 4, 0, 1, 0);
        due(pair, 1, 4, 2, 0, 1, 0);
        due(pair, 1, 4, 2, 10, 1, 0);
        due(pair, 64, 4, 2, 11, 64, 0);
    }

    private static void cutTells() {
        CHECK.sentence("Terms", "5 file a is cut to b bytes: how many it had.");
        Pair pair = tree();
        due(pair, 10, 5, 2, 10, 0, 0);
        bytesDue(pair, 2, 0, 1, 2, 3, 4, 5, 6, 7, 8, 9, 10);
        due(pair, 10, 5, 2, 9, 0, 0);
        due(pair, 9, 5, 2, 1, 0, 0);
        bytesDue(pair, 2, 0, 1);
        due(pair, 1, 5, 2, 0, 0, 0);
        due(pair, 0, 5, 2, 0, 0, 0);
        due(pair, 0, 8, 2, 1, 0, 0);
        CHECK.due("changes(), each of them counts", pair.changes(), 10);
        due(pair, 3, 4, 2, 0, 3, 0);
        bytesDue(pair, 2, 0, 0, 0, 0);
    }

    private static void cutRefuses() {
        CHECK.sentence("Terms", "NO_NODE, IS_DIR, WRONG (b not 0 .. its size).");
        Pair pair = tree();
        due(pair, NO_NODE, 5, 5, 0, 0, 0);
        due(pair, IS_DIR, 5, 0, 0, 0, 0);
        due(pair, IS_DIR, 5, 3, 0, 0, 0);
        for (int b : new int[] {-1, 11, LEAST, LARGEST}) {
            due(pair, WRONG, 5, 2, b, 0, 0);
        }
        due(pair, WRONG, 5, 4, 1, 0, 0);
        due(pair, 0, 5, 4, 0, 0, 0);
        due(pair, 10, 5, 2, 10, 0, 0);
    }

    private static void takenAway() {
        CHECK.sentence("Terms", "6 node a is taken away: how many bytes it had (0 of a directory).");
        Pair pair = tree();
        due(pair, 10, 6, 2, 0, 0, 0);
        due(pair, NO_NODE, 6, 2, 0, 0, 0);
        due(pair, NO_NODE, 0, 0, 2, 2, 0);
        due(pair, 0, 6, 3, 0, 0, 0);
        due(pair, NO_NODE, 8, 3, 0, 0, 0);
        due(pair, 0, 6, 4, 0, 0, 0);
        due(pair, 0, 6, 1, 0, 0, 0);
        due(pair, NO_NODE, 9, 0, 0, 0, 0);
        due(pair, 1, 2, 0, 2, 2, 0);
        due(pair, 0, 8, 1, 1, 0, 0);
    }

    private static void takingAwayRefuses() {
        CHECK.sentence("Terms", "NO_NODE, WRONG (the root), NOT_EMPTY.");
        Pair pair = tree();
        due(pair, NO_NODE, 6, 5, 0, 0, 0);
        due(pair, WRONG, 6, 0, 0, 0, 0);
        due(pair, NOT_EMPTY, 6, 1, 0, 0, 0);
        due(pair, 0, 6, 3, 0, 0, 0);
        due(pair, NOT_EMPTY, 6, 1, 0, 0, 0);
        due(pair, 0, 6, 4, 0, 0, 0);
        due(pair, 0, 6, 1, 0, 0, 0);
        due(pair, 10, 6, 2, 0, 0, 0);
        due(pair, WRONG, 6, 0, 0, 0, 0);
        for (int node = 1; node <= 63; node++) {
            due(pair, node, 1, 0, node, node, 0);
        }
        for (int inside : new int[] {1, 2, 62, 63}) {
            int outside = inside == 1 ? 2 : 1;
            due(pair, inside, 7, inside, outside, 9, 9);
            due(pair, NOT_EMPTY, 6, outside, 0, 0, 0);
            due(pair, inside, 7, inside, 0, inside, inside);
        }
        due(pair, 0, 6, 1, 0, 0, 0);
    }

    private static void goes() {
        CHECK.sentence("Terms", "7 node a goes to directory b with the name c, d: a.");
        Pair pair = tree();
        due(pair, 4, 7, 4, 3, 5, 5);
        due(pair, 3, 8, 4, 2, 0, 0);
        due(pair, 4, 0, 3, 5, 5, 0);
        due(pair, NO_NODE, 0, 1, 4, 4, 0);
        due(pair, 3, 7, 3, 0, 0, 7);
        due(pair, 0, 8, 3, 2, 0, 0);
        due(pair, 1, 7, 1, 3, 7, 0);
        due(pair, 3, 8, 1, 2, 0, 0);
        due(pair, 2, 7, 2, 0, 2, 3);
        due(pair, 2, 0, 0, 2, 3, 0);
        due(pair, NO_NODE, 0, 0, 2, 2, 0);
        bytesDue(pair, 2, 0, 1, 2, 3, 4, 5, 6, 7, 8, 9, 10);
    }

    private static void goingRefuses() {
        CHECK.sentence("Terms", "NO_NODE (a), then for b as 1 and 2 (NO_NODE, NOT_DIR, WRONG, EXISTS)");
        Pair pair = tree();
        for (int node : NO_NODES) {
            due(pair, NO_NODE, 7, node, 0, 9, 9);
            due(pair, NO_NODE, 7, 2, node, 9, 9);
        }
        due(pair, NOT_DIR, 7, 2, 4, 9, 9);
        due(pair, NOT_DIR, 7, 2, 2, 9, 9);
        due(pair, WRONG, 7, 2, 1, 0, 0);
        due(pair, EXISTS, 7, 2, 1, 3, 3);
        due(pair, EXISTS, 7, 2, 1, 4, 4);
        due(pair, EXISTS, 7, 2, 0, 2, 2);
        CHECK.due("changes()", pair.changes(), 5);
        due(pair, 2, 7, 2, 1, 0, 1);
        due(pair, 2, 7, 2, 1, 1, 0);
        due(pair, 2, 7, 2, 1, 3, 4);
    }

    private static void goesIntoItself() {
        CHECK.sentence("Terms", "WRONG (b is a, or lies in it at whatever depth)");
        Pair pair = Pair.opened(CHECK, 1);
        for (int node = 1; node <= 63; node++) {
            due(pair, node, 1, node - 1, 1, 0, 0);
        }
        for (int depth : new int[] {1, 2, 3, 31, 32, 61, 62, 63}) {
            due(pair, WRONG, 7, 1, depth, 9, 9);
            due(pair, WRONG, 7, 0, depth, 9, 9);
        }
        due(pair, WRONG, 7, 0, 0, 9, 9);
        due(pair, WRONG, 7, 62, 63, 9, 9);
        due(pair, 63, 7, 63, 61, 9, 9);
        due(pair, 62, 7, 62, 63, 9, 9);
        due(pair, 2, 7, 2, 0, 9, 9);
        due(pair, 1, 7, 1, 62, 9, 9);
        due(pair, WRONG, 7, 2, 1, 8, 8);
    }

    private static void tells() {
        CHECK.sentence("Terms",
            "what it is (1 a directory, 2 a file), 1 its size (0 of a directory), 2 its directory (0 of the root)");
        Pair pair = tree();
        int[][] nodes = {{1, 0, 0}, {1, 0, 0}, {2, 10, 0}, {1, 0, 1}, {2, 0, 1}};
        for (int node = 0; node < nodes.length; node++) {
            for (int b = 0; b <= 2; b++) {
                due(pair, nodes[node][b], 8, node, b, 0, 0);
            }
        }
    }

    private static void tellingRefuses() {
        CHECK.sentence("Terms", "NO_NODE, WRONG (b).");
        Pair pair = tree();
        for (int node = 0; node <= 2; node++) {
            for (int b : new int[] {-1, 3, 256, LEAST, LARGEST}) {
                due(pair, WRONG, 8, node, b, 0, 0);
            }
        }
        due(pair, NO_NODE, 8, 5, 0, 0, 0);
        due(pair, NO_NODE, 8, 5, 3, 0, 0);
    }

    private static void entriesByNames() {
        CHECK.sentence("Terms", "9 the b-th entry (0 the first) of directory a by names (as numbers with their sign");
        Pair pair = Pair.opened(CHECK, 1);
        int[][] names = {{1, 5}, {LARGEST, LEAST}, {-1, 0}, {1, -5}, {LEAST, LARGEST}, {0, 1}, {0, -1}, {LEAST, LEAST},
            {LARGEST, LARGEST}};
        for (int i = 0; i < names.length; i++) {
            due(pair, i + 1, 1 + i % 2, 0, names[i][0], names[i][1], 0);
        }
        int[] order = {8, 5, 3, 7, 6, 4, 1, 2, 9};
        for (int i = 0; i < order.length; i++) {
            due(pair, order[i], 9, 0, i, 0, 0);
        }
        due(pair, 0, 6, 7, 0, 0, 0);
        due(pair, 6, 9, 0, 3, 0, 0);
        due(pair, 6, 7, 6, 0, LARGEST, 0);
        due(pair, 4, 9, 0, 3, 0, 0);
        due(pair, 6, 9, 0, 6, 0, 0);
    }

    private static void entriesRefuse() {
        CHECK.sentence("Terms", "NO_NODE (also when there is none such), NOT_DIR.");
        Pair pair = tree();
        due(pair, 1, 9, 0, 0, 0, 0);
        due(pair, 2, 9, 0, 1, 0, 0);
        for (int b : new int[] {2, 3, -1, LEAST, LARGEST}) {
            due(pair, NO_NODE, 9, 0, b, 0, 0);
        }
        due(pair, NO_NODE, 9, 3, 0, 0, 0);
        due(pair, NO_NODE, 9, 5, 0, 0, 0);
        due(pair, NOT_DIR, 9, 2, 0, 0, 0);
        due(pair, NOT_DIR, 9, 4, 5, 0, 0);
    }
}
