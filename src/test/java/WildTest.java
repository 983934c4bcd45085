import java.util.Random;

/**
 * Calls with wild arguments, also far beyond the 512th (whose answers are free): none throws but what the document
 * names, and all end.
 */
final class WildTest {
    private static final int[] EDGES = {
        Integer.MIN_VALUE, -257, -1, 0, 1, 2, 9, 63, 64, 65, 1024, 9999, Integer.MAX_VALUE};

    private final Check check;
    private final Random random;
    private final GuardedTree tree = new GuardedTree();

    private WildTest(Check check, int run) {
        this.check = check;
        random = new Random(run);
    }

    public static void main(String[] args) {
        Check check = new Check("WildTest");
        for (int run = 0; run < 8; run++) {
            check.about("run " + run);
            WildTest test = new WildTest(check, run);
            for (int i = 0; i < 6000 && !check.hasFailed(); i++) {
                test.step();
            }
        }
        check.end();
    }

    private int any() {
        return random.nextInt(3) == 0 ? EDGES[random.nextInt(EDGES.length)] : random.nextInt(4);
    }

    private void step() {
        int kind = random.nextInt(17);
        try {
            call(kind);
        } catch (RuntimeException e) {
            Class<?> named = kind == 4 ? IllegalArgumentException.class : IndexOutOfBoundsException.class;
            boolean may = kind == 4 || kind >= 7 && kind <= 12;
            check.due("call of kind " + kind + " throws " + e, may && e.getClass() == named, true);
        }
    }

    private void call(int kind) {
        switch (kind) {
            case 0:
                if (random.nextInt(20) == 0) {
                    tree.connect(any());
                }
                break;
            case 1:
                if (random.nextInt(40) == 0) {
                    tree.close();
                }
                break;
            case 2:
                tree.client();
                break;
            case 3:
                tree.put(any());
                break;
            case 4:
                tree.ask(any(), any(), any(), any(), any());
                break;
            case 5:
                tree.status(any());
                break;
            case 6:
                tree.server();
                break;
            case 7:
                tree.data(any(), any());
                break;
            case 8:
                tree.credit(any());
                break;
            case 9:
                tree.way(any());
                break;
            case 10:
                tree.octet(any(), any());
                break;
            case 11:
                if (random.nextInt(30) == 0) {
                    tree.alter(any(), any(), any());
                }
                break;
            case 12:
                tree.move(any(), any());
                break;
            case 13:
                tree.cut(any(), any());
                break;
            case 14:
                tree.start();
                break;
            case 15:
                tree.changes();
                break;
            default:
                settle();
                break;
        }
    }

    /** Brings a connection that is neither fresh nor open back to work. */
    private void settle() {
        if (tree.client() != 2 || tree.server() != 2) {
            tree.start();
            tree.connect(any());
        }
        tree.move(0, 9999);
        tree.move(1, 9999);
        tree.ask(random.nextInt(10), random.nextInt(4), any(), any(), any());
    }
}
