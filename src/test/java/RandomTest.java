import java.util.Random;

/** Long runs of calls by chance (always the same ones), each answer against the model's. */
final class RandomTest {
    private static final int RUNS = 400, CALLS = 505;

    private final Check check;
    private final Random random;
    private final Pair pair;
    private final int flavour;
    private int lastId;

    private RandomTest(Check check, int run) {
        this.check = check;
        random = new Random(run);
        pair = new Pair(check);
        flavour = run % 8;
    }

    public static void main(String[] args) {
        Check check = new Check("RandomTest");
        for (int run = 0; run < RUNS && !check.hasFailed(); run++) {
            check.about("run " + run);
            new RandomTest(check, run).go();
        }
        check.end();
    }

    private void go() {
        pair.open(random.nextInt());
        while (pair.calls() < CALLS - 150 && !check.hasFailed()) {
            step();
        }
        while (pair.calls() < CALLS && !check.hasFailed()) {
            look();
        }
    }

    private boolean chance(int percent) {
        return random.nextInt(100) < percent;
    }

    private void step() {
        int kind = random.nextInt(100);
        if (kind < 45) {
            ask();
        } else if (kind < 75) {
            move();
        } else if (kind < 80) {
            pair.put(random.nextInt());
        } else if (kind < 92) {
            look();
        } else {
            disturb();
        }
    }

    private void ask() {
        int kind = flavour == 1 ? 3 + random.nextInt(2) : random.nextInt(chance(1) ? 12 : 10);
        if (kind == 4 && chance(50)) {
            pair.put(random.nextInt());
        }
        int id = pair.ask(kind, node(), second(kind), third(kind), random.nextInt(3));
        if (id > 0) {
            lastId = id;
        }
    }

    private int node() {
        return chance(3) ? random.nextInt(70) - 3 : random.nextInt(flavour == 2 ? 3 : 8);
    }

    private int second(int kind) {
        switch (kind) {
            case 3:
            case 4:
            case 5:
                return chance(60) ? 0 : random.nextInt(140) - 4;
            case 7:
                return node();
            default:
                return random.nextInt(6) - 2;
        }
    }

    private int third(int kind) {
        return kind == 3 || kind == 4 ? chance(60) ? 64 : random.nextInt(70) - 2 : random.nextInt(4) - 1;
    }

    private void move() {
        int dir = chance(1) ? random.nextInt(5) - 2 : random.nextInt(2);
        int n = chance(70) ? Pair.ALL : random.nextInt(200) - 10;
        pair.move(dir, n);
    }

    private void look() {
        switch (random.nextInt(9)) {
            case 0:
                pair.client();
                break;
            case 1:
                pair.server();
                break;
            case 2:
                pair.credit(random.nextInt(2));
                break;
            case 3:
                pair.way(random.nextInt(2));
                break;
            case 4:
                pair.changes();
                break;
            case 5:
                pair.octet(random.nextInt(2), random.nextInt(chance(50) ? 64 : 1000));
                break;
            case 6:
                pair.data(random.nextInt(lastId + 1), random.nextInt(66) - 1);
                break;
            default:
                pair.status(lastId - random.nextInt(30));
                break;
        }
    }

    private void disturb() {
        int what = random.nextInt(100);
        if (what < 30) {
            forge();
        } else if (what < 36) {
            pair.alter(random.nextInt(2), random.nextInt(100), random.nextInt());
        } else if (what < 60) {
            pair.cut(random.nextInt(chance(50) ? 5 : 40) - 1, random.nextInt(33));
        } else if (what < 63) {
            pair.close();
        } else {
            recover();
        }
    }

    private void recover() {
        if (pair.server() == GuardedTree.NO_POWER) {
            pair.start();
        }
        if (pair.client() != 2 || pair.server() != 2) {
            pair.open(random.nextInt());
        }
    }

    /** A packet with a good seal but another payload, if a whole one is next on the way to a side that is open. */
    private void forge() {
        int dir = random.nextInt(2);
        if (pair.calls() > CALLS - 250 || pair.model.way(dir) < 64 || pair.model.partlyCame(dir) != 0) {
            return;
        }
        if ((dir == 0 ? pair.server() : pair.client()) != 2) {
            return;
        }
        pair.forgePayload(dir, payload(dir));
    }

    private byte[] payload(int dir) {
        int amount = chance(80) ? 1 + random.nextInt(60) : random.nextInt(500) - 50;
        if (chance(60)) {
            return Flow.grant(amount);
        }
        if (dir == 0) {
            return Flow.request(random.nextInt(lastId + 2), random.nextInt(11), node(), random.nextInt(3), 1, 1);
        }
        return Flow.reply(lastId - random.nextInt(5), random.nextInt(), new byte[random.nextInt(10)]);
    }
}
