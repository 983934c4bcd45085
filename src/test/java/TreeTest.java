/** THE TREE and its requests, with the first of several refusals. */
final class TreeTest {
    private static final Check CHECK = new Check("TreeTest");
    private static final int[] NO_NODES = {-1, 9, 63, 64, Integer.MIN_VALUE, Integer.MAX_VALUE};
    private static final int DIRECTORY = 1, FILE = 2;

    public static void main(String[] args) {
        missingNodes();
        look();
        create();
        nodesRunOut();
        leastFreeNode();
        read();
        write();
        fileIsFull();
        blocksRunOut();
        blocksAreGivenBack();
        shorten();
        remove();
        relocate();
        tell();
        entries();
        CHECK.end();
    }

    /** A tree with directory 1 and file 2 (10 bytes) in the root, directory 3 and file 4 in directory 1. */
    private static Pair tree() {
        Pair pair = new Pair(CHECK);
        pair.open(1);
        pair.done(1, 0, 1, 1);
        pair.done(2, 0, 2, 2);
        pair.done(1, 1, 3, 3);
        pair.done(2, 1, 4, 4);
        pair.done(4, 2, 0, 10);
        return pair;
    }

    private static void due(Pair pair, int want, int... r) {
        pair.move(0, Pair.ALL);
        CHECK.due("request " + java.util.Arrays.toString(r), pair.done(r[0], r[1], r[2], r[3], r[4]), want);
    }

    private static void missingNodes() {
        CHECK.about("there is no such node");
        Pair pair = tree();
        for (int kind = 0; kind <= 9; kind++) {
            for (int node : NO_NODES) {
                due(pair, GuardedTree.NO_NODE, kind, node, 0, 0, 0);
            }
        }
        CHECK.due("changes()", pair.changes(), 5);
    }

    private static void look() {
        CHECK.about("LOOK");
        Pair pair = tree();
        due(pair, 1, 0, 0, 1, 1, 0);
        due(pair, 2, 0, 0, 2, 2, 99);
        due(pair, GuardedTree.NO_NODE, 0, 0, 1, 2, 0);
        due(pair, GuardedTree.NO_NODE, 0, 0, 2, 1, 0);
        due(pair, GuardedTree.NO_NODE, 0, 0, 0, 0, 0);
        due(pair, GuardedTree.NO_NODE, 0, 0, 3, 3, 0);
        due(pair, 3, 0, 1, 3, 3, 0);
        due(pair, GuardedTree.NOT_DIR, 0, 2, 1, 1, 0);
    }

    private static void create() {
        CHECK.about("a directory, a file more");
        for (int kind = 1; kind <= 2; kind++) {
            Pair pair = tree();
            due(pair, GuardedTree.NOT_DIR, kind, 2, 0, 0, 0);
            due(pair, GuardedTree.WRONG, kind, 0, 0, 0, 1);
            due(pair, GuardedTree.EXISTS, kind, 0, 1, 1, 0);
            due(pair, GuardedTree.EXISTS, kind, 0, 2, 2, 0);
            due(pair, 5, kind, 0, 0, 1, 0);
            due(pair, 6, kind, 0, 1, 0, 0);
            due(pair, 7, kind, 0, -1, -1, 0);
            due(pair, 8, kind, 1, 1, 1, 0);
            due(pair, kind, 8, 5, 0, 0, 0);
            due(pair, 0, 8, 5, 1, 0, 0);
            due(pair, 1, 8, 8, 2, 0, 0);
            CHECK.due("changes()", pair.changes(), 9);
        }
    }

    private static void nodesRunOut() {
        CHECK.about("64 nodes");
        Pair pair = new Pair(CHECK);
        pair.open(1);
        for (int node = 1; node <= 63; node++) {
            due(pair, node, node % 2 == 0 ? DIRECTORY : FILE, 0, node, 0, 0);
        }
        due(pair, GuardedTree.NO_ROOM, DIRECTORY, 0, 64, 0, 0);
        due(pair, GuardedTree.NO_ROOM, FILE, 2, 64, 0, 0);
        due(pair, GuardedTree.EXISTS, FILE, 0, 63, 0, 0);
        due(pair, GuardedTree.WRONG, FILE, 0, 0, 0, 0);
        due(pair, GuardedTree.NOT_DIR, FILE, 1, 64, 0, 0);
        due(pair, 0, 6, 17, 0, 0, 0);
        due(pair, 17, DIRECTORY, 63 - 1, 64, 0, 0);
        due(pair, GuardedTree.NO_ROOM, DIRECTORY, 17, 64, 0, 0);
    }

    private static void leastFreeNode() {
        CHECK.about("the least node that is free");
        Pair pair = tree();
        due(pair, 10, 6, 2, 0, 0, 0);
        due(pair, 0, 6, 3, 0, 0, 0);
        due(pair, GuardedTree.NO_NODE, 8, 2, 0, 0, 0);
        due(pair, 2, DIRECTORY, 0, 9, 9, 0);
        due(pair, 3, FILE, 2, 9, 9, 0);
        due(pair, 5, FILE, 2, 9, 8, 0);
        due(pair, 0, 8, 2, 1, 0, 0);
    }

    private static void read() {
        CHECK.about("READ");
        Pair pair = tree();
        due(pair, GuardedTree.IS_DIR, 3, 0, -1, 0, 0);
        due(pair, GuardedTree.IS_DIR, 3, 1, 0, 1, 0);
        due(pair, GuardedTree.WRONG, 3, 2, -1, 1, 0);
        due(pair, GuardedTree.WRONG, 3, 2, Integer.MIN_VALUE, 1, 0);
        due(pair, GuardedTree.WRONG, 3, 2, 0, 0, 0);
        due(pair, GuardedTree.WRONG, 3, 2, 0, 65, 0);
        due(pair, GuardedTree.WRONG, 3, 2, 0, -1, 0);
        due(pair, GuardedTree.WRONG, 3, 2, 100, 65, 0);
        due(pair, 1, 3, 2, 0, 1, 0);
        due(pair, 10, 3, 2, 0, 64, 0);
        due(pair, 1, 3, 2, 9, 64, 0);
        due(pair, 0, 3, 2, 10, 64, 0);
        due(pair, 0, 3, 2, 11, 64, 0);
        due(pair, 0, 3, 2, Integer.MAX_VALUE, 64, 0);
        due(pair, 0, 3, 4, 0, 1, 0);
    }

    private static void write() {
        CHECK.about("WRITE");
        Pair pair = tree();
        due(pair, GuardedTree.IS_DIR, 4, 0, -1, 0, 0);
        due(pair, GuardedTree.WRONG, 4, 2, -1, 1, 0);
        due(pair, GuardedTree.WRONG, 4, 2, 11, 1, 0);
        due(pair, GuardedTree.WRONG, 4, 2, 0, 0, 0);
        due(pair, GuardedTree.WRONG, 4, 2, 0, 65, 0);
        due(pair, GuardedTree.WRONG, 4, 2, Integer.MAX_VALUE, 64, 0);
        due(pair, GuardedTree.WRONG, 4, 2, Integer.MIN_VALUE, 64, 0);
        due(pair, 10, 8, 2, 1, 0, 0);
        due(pair, 3, 4, 2, 10, 3, 0);
        due(pair, 13, 8, 2, 1, 0, 0);
        pair.put(0x0a0b0c0d);
        due(pair, 2, 4, 2, 5, 2, 0);
        due(pair, 13, 8, 2, 1, 0, 0);
        due(pair, 13, 3, 2, 0, 64, 0);
        int id = 4 + 1 + 12 + 1;
        for (int i = 0; i < 13; i++) {
            CHECK.due("byte " + i, pair.data(id, i), i == 5 ? 10 : i == 6 ? 11 : 0);
        }
        due(pair, 64, 4, 2, 13, 64, 0);
        due(pair, 1, 4, 2, 77, 1, 0);
        due(pair, 78, 8, 2, 1, 0, 0);
    }

    private static void fill(Pair pair, int node, int size) {
        for (int at = 0; at < size; at += 64) {
            pair.put(at + node);
            due(pair, 64, 4, node, at, 64, 0);
        }
    }

    private static void fileIsFull() {
        CHECK.about("1024 bytes of a file");
        Pair pair = tree();
        fill(pair, 4, 1024);
        due(pair, 1024, 8, 4, 1, 0, 0);
        due(pair, GuardedTree.NO_ROOM, 4, 4, 1024, 1, 0);
        due(pair, GuardedTree.NO_ROOM, 4, 4, 961, 64, 0);
        due(pair, 64, 4, 4, 960, 64, 0);
        due(pair, 63, 4, 4, 961, 63, 0);
        due(pair, GuardedTree.WRONG, 4, 4, 1025, 1, 0);
        for (int at = 0; at < 1024 - 128; at += 64) {
            int id = pair.ask(3, 4, at, 4, 0);
            pair.moveAll();
            CHECK.due("status", pair.status(id), 4);
            CHECK.due("a byte of each block", pair.data(id, 2) * 256 + pair.data(id, 3), at + 4);
        }
        due(pair, 1024, 5, 4, 1000, 0, 0);
        due(pair, 24, 4, 4, 1000, 24, 0);
    }

    private static void blocksRunOut() {
        CHECK.about("128 blocks");
        Pair pair = new Pair(CHECK);
        pair.open(1);
        for (int node = 1; node <= 9; node++) {
            pair.done(2, 0, node, 0);
        }
        for (int at = 0; at < 1024; at += 64) {
            for (int node = 1; node <= 7; node++) {
                pair.ask(4, node, at, node == 7 && at == 960 ? 1 : 64, 0);
                if (pair.model.credit(0) < 86) {
                    pair.moveAll();
                }
            }
        }
        pair.moveAll();
        fillNinth(pair);
    }

    /** With 16 blocks left: one of 64 bytes, fourteen of 1 byte (all in new blocks), and then one too many. */
    private static void fillNinth(Pair pair) {
        due(pair, 961, 8, 7, 1, 0, 0);
        for (int at = 0; at < 960; at += 64) {
            due(pair, 64, 4, 8, at, 64, 0);
        }
        due(pair, 1, 4, 9, 0, 1, 0);
        due(pair, GuardedTree.NO_ROOM, 4, 8, 960, 1, 0);
        due(pair, 63, 4, 9, 1, 63, 0);
        due(pair, GuardedTree.NO_ROOM, 4, 9, 64, 1, 0);
        due(pair, GuardedTree.NO_ROOM, 4, 9, 63, 2, 0);
        due(pair, 64, 8, 9, 1, 0, 0);
        due(pair, 63, 4, 7, 961, 63, 0);
        due(pair, 1024, 5, 7, 961, 0, 0);
        due(pair, GuardedTree.NO_ROOM, 4, 9, 64, 1, 0);
        due(pair, 961, 5, 7, 960, 0, 0);
        due(pair, 64, 4, 9, 63, 64, 0);
        due(pair, GuardedTree.NO_ROOM, 4, 9, 127, 64, 0);
        due(pair, 1024, 6, 1, 0, 0, 0);
        due(pair, 64, 4, 9, 127, 64, 0);
    }

    /** What a file holds from a byte on: the first of those bytes. */
    private static int firstByte(Pair pair, int node, int from) {
        int id = pair.ask(3, node, from, 1, 0);
        pair.moveAll();
        CHECK.due("READ of one byte", pair.status(id), 1);
        CHECK.due("no second one", pair.data(id, 1), Pair.THROWN);
        return pair.data(id, 0);
    }

    private static void blocksAreGivenBack() {
        CHECK.about("files keep their own bytes when blocks are given back and taken again");
        Pair pair = tree();
        due(pair, 10, 6, 2, 0, 0, 0);
        for (int node = 2; node <= 7; node += node == 2 ? 3 : 1) {
            due(pair, node, FILE, 0, node, node, 0);
        }
        int[] nodes = {2, 5, 6, 7};
        for (int at = 0; at < 256; at += 64) {
            for (int node : nodes) {
                pair.put(node * 16 + at / 64 << 24);
                due(pair, 64, 4, node, at, 64, 0);
            }
        }
        due(pair, 256, 6, 5, 0, 0, 0);
        due(pair, 256, 5, 2, 64, 0, 0);
        due(pair, 5, FILE, 0, 5, 5, 0);
        for (int at = 0; at < 448; at += 64) {
            pair.put(0xff000000);
            due(pair, 64, 4, 5, at, 64, 0);
        }
        CHECK.due("file 2", firstByte(pair, 2, 0), 0x20);
        for (int part = 0; part < 4; part++) {
            CHECK.due("file 6", firstByte(pair, 6, 64 * part), 0x60 + part);
            CHECK.due("file 7", firstByte(pair, 7, 64 * part), 0x70 + part);
        }
        for (int part = 0; part < 7; part++) {
            CHECK.due("file 5", firstByte(pair, 5, 64 * part), 0xff);
        }
    }

    private static void shorten() {
        CHECK.about("a file is cut");
        Pair pair = tree();
        due(pair, GuardedTree.IS_DIR, 5, 0, -1, 0, 0);
        due(pair, GuardedTree.WRONG, 5, 2, -1, 0, 0);
        due(pair, GuardedTree.WRONG, 5, 2, 11, 0, 0);
        due(pair, 10, 5, 2, 10, 0, 0);
        due(pair, 10, 5, 2, 4, 0, 0);
        due(pair, 4, 8, 2, 1, 0, 0);
        due(pair, 4, 3, 2, 0, 64, 0);
        due(pair, 4, 5, 2, 0, 0, 0);
        due(pair, 0, 5, 2, 0, 0, 0);
        due(pair, GuardedTree.WRONG, 5, 2, 1, 0, 0);
        due(pair, 0, 8, 2, 1, 0, 0);
    }

    private static void remove() {
        CHECK.about("a node is taken away");
        Pair pair = tree();
        due(pair, GuardedTree.WRONG, 6, 0, 0, 0, 0);
        due(pair, GuardedTree.NOT_EMPTY, 6, 1, 0, 0, 0);
        due(pair, 10, 6, 2, 0, 0, 0);
        due(pair, GuardedTree.NO_NODE, 6, 2, 0, 0, 0);
        due(pair, 0, 6, 3, 0, 0, 0);
        due(pair, GuardedTree.NOT_EMPTY, 6, 1, 0, 0, 0);
        due(pair, 0, 6, 4, 0, 0, 0);
        due(pair, 0, 6, 1, 0, 0, 0);
        due(pair, GuardedTree.WRONG, 6, 0, 0, 0, 0);
        due(pair, GuardedTree.NO_NODE, 9, 0, 0, 0, 0);
        due(pair, GuardedTree.NO_NODE, 0, 0, 1, 1, 0);
    }

    private static void relocate() {
        CHECK.about("a node goes to another directory");
        Pair pair = tree();
        due(pair, GuardedTree.NO_NODE, 7, 9, 2, 0, 0);
        due(pair, GuardedTree.NO_NODE, 7, 1, 9, 0, 0);
        due(pair, GuardedTree.NO_NODE, 7, 0, 64, 0, 0);
        due(pair, GuardedTree.NOT_DIR, 7, 1, 2, 0, 0);
        due(pair, GuardedTree.NOT_DIR, 7, 2, 2, 5, 5);
        due(pair, GuardedTree.WRONG, 7, 1, 0, 0, 0);
        due(pair, GuardedTree.EXISTS, 7, 1, 0, 2, 2);
        due(pair, GuardedTree.EXISTS, 7, 1, 0, 1, 1);
        due(pair, GuardedTree.EXISTS, 7, 1, 1, 3, 3);
        due(pair, GuardedTree.WRONG, 7, 1, 1, 5, 5);
        due(pair, GuardedTree.WRONG, 7, 1, 3, 5, 5);
        due(pair, GuardedTree.WRONG, 7, 0, 0, 5, 5);
        due(pair, GuardedTree.WRONG, 7, 0, 3, 5, 5);
        due(pair, 4, 7, 4, 3, 5, 5);
        due(pair, 3, 8, 4, 2, 0, 0);
        due(pair, 4, 0, 3, 5, 5, 0);
        due(pair, GuardedTree.NO_NODE, 0, 1, 4, 4, 0);
        due(pair, 3, 7, 3, 0, 0, 7);
        due(pair, 0, 8, 3, 2, 0, 0);
        due(pair, 1, 7, 1, 3, 7, 0);
        due(pair, 3, 8, 1, 2, 0, 0);
        due(pair, GuardedTree.WRONG, 7, 3, 1, 7, 0);
        due(pair, 2, 7, 2, 0, 2, 3);
        due(pair, 2, 0, 0, 2, 3, 0);
        due(pair, GuardedTree.NO_NODE, 0, 0, 2, 2, 0);
        due(pair, 10, 3, 2, 0, 64, 0);
    }

    private static void tell() {
        CHECK.about("what a node is");
        Pair pair = tree();
        int[][] nodes = {{0, 1, 0, 0}, {1, 1, 0, 0}, {2, 2, 10, 0}, {3, 1, 0, 1}, {4, 2, 0, 1}};
        for (int[] node : nodes) {
            for (int b = 0; b <= 2; b++) {
                due(pair, node[b + 1], 8, node[0], b, 0, 0);
            }
            due(pair, GuardedTree.WRONG, 8, node[0], -1, 0, 0);
            due(pair, GuardedTree.WRONG, 8, node[0], 3, 0, 0);
        }
    }

    private static void entries() {
        CHECK.about("entries by names");
        Pair pair = new Pair(CHECK);
        pair.open(1);
        int low = Integer.MIN_VALUE;
        int high = Integer.MAX_VALUE;
        int[][] names = {{1, 5}, {high, low}, {-1, 0}, {1, -5}, {low, high}, {0, 1}, {0, -1}, {low, low}, {high, high}};
        for (int[] name : names) {
            pair.move(0, Pair.ALL);
            pair.done(2, 0, name[0], name[1]);
        }
        int[] order = {8, 5, 3, 7, 6, 4, 1, 2, 9};
        for (int i = 0; i < order.length; i++) {
            due(pair, order[i], 9, 0, i, 0, 0);
        }
        due(pair, GuardedTree.NO_NODE, 9, 0, 9, 0, 0);
        due(pair, GuardedTree.NO_NODE, 9, 0, -1, 0, 0);
        due(pair, GuardedTree.NO_NODE, 9, 0, low, 0, 0);
        due(pair, GuardedTree.NO_NODE, 9, 0, high, 0, 0);
        due(pair, GuardedTree.NOT_DIR, 9, 1, 0, 0, 0);
        due(pair, 0, 6, 7, 0, 0, 0);
        due(pair, 6, 9, 0, 3, 0, 0);
        due(pair, 7, 1, 0, 5, 5, 0);
        due(pair, GuardedTree.NO_NODE, 9, 7, 0, 0, 0);
    }
}
