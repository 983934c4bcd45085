/** The room in THE TREE: 64 nodes, names, 1024 bytes of a file, 128 blocks. */
final class RoomTest {
    private static final Check CHECK = new Check("RoomTest");
    private static final int NO_ROOM = GuardedTree.NO_ROOM;
    private static final int FULL = 1024;

    public static void main(String[] args) {
        sixtyFourNodes();
        rootIsADirectory();
        namesNotBothZero();
        emptyFile();
        longestFile();
        writeBeyondTheLongest();
        blocksOfParts();
        blocksOfAllFiles();
        blocksNotEnough();
        refusedTakesNoBlocks();
        blocksGivenBack();
        filesKeepTheirBytes();
        CHECK.end();
    }

    private static void due(Pair pair, int want, int kind, int a, int b, int c) {
        String call = "request " + kind + ", " + a + ", " + b + ", " + c;
        CHECK.due(call, pair.done(kind, a, b, c), want);
    }

    private static void sixtyFourNodes() {
        CHECK.sentence("Terms", "THE TREE has nodes 0 .. 63");
        Pair pair = Pair.opened(CHECK, 1);
        for (int node = 1; node <= 63; node++) {
            due(pair, node, 1 + node % 2, 0, node, 0);
        }
        CHECK.due("changes()", pair.changes(), 63);
        due(pair, NO_ROOM, 1, 0, 64, 0);
        due(pair, NO_ROOM, 2, 2, 64, 0);
        due(pair, GuardedTree.EXISTS, 2, 0, 63, 0);
        due(pair, GuardedTree.WRONG, 2, 0, 0, 0);
        due(pair, GuardedTree.NOT_DIR, 2, 1, 64, 0);
        due(pair, 2, 8, 63, 0, 0);
        due(pair, GuardedTree.NO_NODE, 8, 64, 0, 0);
        due(pair, GuardedTree.NO_NODE, 8, -1, 0, 0);
        CHECK.due("changes()", pair.changes(), 63);
        due(pair, 0, 6, 17, 0, 0);
        due(pair, 17, 1, 62, 64, 0);
        due(pair, NO_ROOM, 1, 17, 64, 0);
        due(pair, 0, 6, 63, 0, 0);
        due(pair, 63, 2, 17, 64, 0);
    }

    private static void rootIsADirectory() {
        CHECK.sentence("Terms", "node 0 is a directory, the root");
        Pair pair = Pair.opened(CHECK, 1);
        due(pair, 1, 8, 0, 0, 0);
        due(pair, GuardedTree.IS_DIR, 3, 0, 0, 1);
        due(pair, GuardedTree.WRONG, 6, 0, 0, 0);
        due(pair, 1, 1, 0, 1, 1);
        CHECK.due("the root goes nowhere", pair.done(7, 0, 1, 2, 2), GuardedTree.WRONG);
    }

    private static void namesNotBothZero() {
        CHECK.sentence("Terms", "under a NAME (two words, not both 0)");
        Pair pair = Pair.opened(CHECK, 1);
        for (int kind = 1; kind <= 2; kind++) {
            due(pair, GuardedTree.WRONG, kind, 0, 0, 0);
        }
        int[][] names = {{0, 1}, {1, 0}, {0, -1}, {-1, 0}, {0, Integer.MIN_VALUE}, {Integer.MIN_VALUE, 0}};
        for (int i = 0; i < names.length; i++) {
            due(pair, i + 1, 1, 0, names[i][0], names[i][1]);
        }
        for (int i = 0; i < names.length; i++) {
            due(pair, i + 1, 0, 0, names[i][0], names[i][1]);
            CHECK.due("a name 0, 0", pair.done(7, i + 1, 0, 0, 0), GuardedTree.WRONG);
        }
        CHECK.due("the same name in another directory", pair.done(7, 2, 1, 0, 1), 2);
    }

    private static void emptyFile() {
        CHECK.sentence("Terms", "directories or files of 0 .. 1024 bytes");
        Pair pair = Pair.opened(CHECK, 1);
        due(pair, 1, 2, 0, 1, 1);
        due(pair, 0, 8, 1, 1, 0);
        due(pair, 0, 3, 1, 0, 64);
        due(pair, 0, 5, 1, 0, 0);
        due(pair, 0, 6, 1, 0, 0);
    }

    /** A WRITE of so many bytes at a file's end, as often as it goes on; a word before all others tells where. */
    private static void fill(Pair pair, int file, int from, int to) {
        for (int at = from; at < to; at += 64) {
            int count = Math.min(64, to - at);
            pair.put(file << 24 | at);
            due(pair, count, 4, file, at, count);
        }
    }

    private static Pair withFiles(int count) {
        Pair pair = Pair.opened(CHECK, 1);
        for (int file = 1; file <= count; file++) {
            due(pair, file, 2, 0, file, 0);
        }
        return pair;
    }

    private static void longestFile() {
        CHECK.sentence("Terms", "files of 0 .. 1024 bytes");
        Pair pair = withFiles(1);
        fill(pair, 1, 0, 1023);
        due(pair, 1023, 8, 1, 1, 0);
        due(pair, 1, 4, 1, 1023, 1);
        due(pair, FULL, 8, 1, 1, 0);
        due(pair, NO_ROOM, 4, 1, FULL, 1);
        due(pair, FULL, 8, 1, 1, 0);
        for (int at = 0; at < FULL; at += 64) {
            due(pair, 4, 3, 1, at, 4);
            int id = pair.model.asked();
            CHECK.due("where it is", pair.data(id, 2) * 256 + pair.data(id, 3), at);
        }
        due(pair, 1, 3, 1, 1023, 64);
        due(pair, 0, 3, 1, FULL, 64);
        due(pair, FULL, 6, 1, 0, 0);
    }

    private static void writeBeyondTheLongest() {
        CHECK.sentence("Terms", "NO_ROOM (it would have more than 1024");
        Pair pair = withFiles(1);
        fill(pair, 1, 0, 1000);
        due(pair, NO_ROOM, 4, 1, 1000, 25);
        due(pair, NO_ROOM, 4, 1, 961, 64);
        due(pair, NO_ROOM, 4, 1, 1000, 64);
        due(pair, 1000, 8, 1, 1, 0);
        due(pair, 24, 4, 1, 1000, 24);
        due(pair, 64, 4, 1, 960, 64);
        due(pair, 63, 4, 1, 961, 63);
        due(pair, NO_ROOM, 4, 1, 961, 64);
        due(pair, NO_ROOM, 4, 1, FULL, 64);
        due(pair, GuardedTree.WRONG, 4, 1, 1025, 1);
        due(pair, FULL, 8, 1, 1, 0);
    }

    /** Files 1 to 9 of which the first seven and nearly all of the eighth are full: so many of 128 blocks are left. */
    private static Pair withBlocksLeft(int left) {
        Pair pair = Pair.opened(CHECK, 1);
        for (int file = 1; file <= 9; file++) {
            pair.ask(2, 0, file, 0, 0);
        }
        pair.moveAll();
        for (int at = 0; at < FULL; at += 64) {
            for (int file = 1; file <= 8; file++) {
                if (file < 8 || at < FULL - 64 * left) {
                    pair.ask(4, file, at, 64, 0);
                }
                if (pair.model.credit(0) < 86) {
                    pair.moveAll();
                }
            }
        }
        pair.moveAll();
        due(pair, FULL, 8, 7, 1, 0);
        due(pair, FULL - 64 * left, 8, 8, 1, 0);
        return pair;
    }

    private static void blocksOfParts() {
        CHECK.sentence("Terms", "a file takes a block for each 64 bytes or part of them");
        Pair pair = withBlocksLeft(3);
        due(pair, 1, 4, 9, 0, 1);
        due(pair, 63, 4, 9, 1, 63);
        due(pair, 1, 4, 9, 64, 1);
        due(pair, 64, 4, 9, 65, 64);
        due(pair, 63, 4, 9, 129, 63);
        due(pair, NO_ROOM, 4, 9, 192, 1);
        due(pair, NO_ROOM, 4, 9, 191, 2);
        due(pair, 1, 4, 9, 191, 1);
        due(pair, 192, 5, 9, 129, 0);
        due(pair, NO_ROOM, 4, 8, 832, 1);
        due(pair, 129, 5, 9, 128, 0);
        due(pair, 1, 4, 8, 832, 1);
        due(pair, NO_ROOM, 4, 9, 128, 1);
    }

    private static void blocksOfAllFiles() {
        CHECK.sentence("Terms", "all together 128");
        Pair pair = withBlocksLeft(1);
        due(pair, 64, 4, 9, 0, 64);
        due(pair, NO_ROOM, 4, 9, 64, 1);
        due(pair, NO_ROOM, 4, 8, 960, 1);
        due(pair, 64, 8, 9, 1, 0);
        pair = withBlocksLeft(0);
        due(pair, NO_ROOM, 4, 9, 0, 1);
        due(pair, 64, 4, 8, 960, 64);
        due(pair, 10, 2, 0, 10, 0);
        due(pair, 0, 5, 9, 0, 0);
    }

    private static void blocksNotEnough() {
        CHECK.sentence("Terms", "or there are not blocks enough");
        Pair pair = withBlocksLeft(1);
        due(pair, 40, 4, 9, 0, 40);
        due(pair, NO_ROOM, 4, 9, 40, 25);
        due(pair, 40, 8, 9, 1, 0);
        due(pair, 24, 4, 9, 40, 24);
        due(pair, 1, 4, 9, 63, 1);
        due(pair, NO_ROOM, 4, 9, 1, 64);
        due(pair, 64, 8, 9, 1, 0);
    }

    private static void refusedTakesNoBlocks() {
        CHECK.sentence("Terms", "one that is refused changes nothing");
        Pair pair = withBlocksLeft(1);
        due(pair, 40, 4, 9, 0, 40);
        int changes = pair.changes();
        for (int i = 0; i < 3; i++) {
            due(pair, NO_ROOM, 4, 9, 40, 64);
            due(pair, GuardedTree.WRONG, 4, 9, 41, 64);
        }
        CHECK.due("changes()", pair.changes(), changes);
        due(pair, 40, 5, 9, 0, 0);
        due(pair, 64, 4, 8, 960, 64);
        due(pair, NO_ROOM, 4, 9, 0, 1);
    }

    private static void blocksGivenBack() {
        CHECK.sentence("Terms", "a file takes a block for each 64 bytes or part of them, all together 128");
        Pair pair = withBlocksLeft(0);
        due(pair, FULL, 5, 1, 961, 0);
        due(pair, NO_ROOM, 4, 9, 0, 1);
        due(pair, 961, 5, 1, 960, 0);
        due(pair, 1, 4, 9, 0, 1);
        due(pair, NO_ROOM, 4, 9, 1, 64);
        due(pair, 960, 6, 1, 0, 0);
        fill(pair, 9, 1, 961);
        due(pair, NO_ROOM, 4, 9, 961, 64);
        due(pair, 63, 4, 9, 961, 63);
        due(pair, NO_ROOM, 4, 9, FULL, 1);
    }

    private static void filesKeepTheirBytes() {
        CHECK.sentence("Terms", "c bytes of the data: c");
        Pair pair = withFiles(4);
        for (int at = 0; at < 256; at += 64) {
            for (int file = 1; file <= 4; file++) {
                fill(pair, file, at, at + 64);
            }
        }
        due(pair, 256, 6, 2, 0, 0);
        due(pair, 256, 5, 1, 64, 0);
        due(pair, 2, 2, 0, 2, 2);
        fill(pair, 2, 0, 448);
        for (int file = 1; file <= 4; file++) {
            int size = file == 1 ? 64 : file == 2 ? 448 : 256;
            for (int at = 0; at < size; at += 64) {
                due(pair, 4, 3, file, at, 4);
                int id = pair.model.asked();
                CHECK.due("whose it is", pair.data(id, 0), file);
                CHECK.due("where it is", pair.data(id, 2) * 256 + pair.data(id, 3), at);
            }
        }
    }
}
