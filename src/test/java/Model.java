import java.math.BigInteger;
import java.util.ArrayDeque;
import java.util.ArrayList;
import java.util.Arrays;
import java.util.List;
import java.util.TreeMap;

/** The document once more, written apart from the class and with the Java library: what each call is to answer. */
final class Model {
    static final int THROWN = Integer.MIN_VALUE + 77;

    private static final class Node {
        final boolean directory;
        int parent;
        long name;
        byte[] bytes = new byte[0];
        final TreeMap<Long, Integer> entries = new TreeMap<>();

        Node(boolean directory) {
            this.directory = directory;
        }
    }

    private static final class Asked {
        String state = "pending";
        int status;
        byte[] read = new byte[0];
    }

    private static final class Waiting {
        byte[] payload;
        int cost;
    }

    private final Node[] nodes = new Node[64];
    private boolean power = true;
    private int cutAt = -1;
    private int written;
    private int sinceCopy;

    private int connections;
    private int clientState;
    private int serverState;
    private int seed;
    private BigInteger sentX;
    byte[][] ways = {new byte[0], new byte[0]};
    private byte[][] inbox = {new byte[0], new byte[0]};
    /** The payload that was sent last in each direction. */
    final byte[][] lastSent = new byte[2][];
    private Flow clientOut;
    private Flow clientIn;
    private Flow serverOut;
    private Flow serverIn;
    private int clientCredit;
    private int serverCredit;
    private int clientOpened;
    private int serverAnswered;
    private int serverUngranted;
    private final ArrayDeque<Waiting> waiting = new ArrayDeque<>();
    private final List<Integer> put = new ArrayList<>();
    private final List<Asked> asked = new ArrayList<>();

    Model() {
        nodes[0] = new Node(true);
    }

    int connect(int newSeed) {
        if (!power) {
            return -30;
        }
        close();
        seed = newSeed;
        sentX = BigInteger.TWO.modPow(Flow.secret(seed, 1), Flow.P);
        send(0, Flow.bytes(sentX));
        clientState = 1;
        serverState = 1;
        return ++connections;
    }

    void close() {
        ways = new byte[][] {new byte[0], new byte[0]};
        inbox = new byte[][] {new byte[0], new byte[0]};
        clientState = 0;
        serverState = 0;
        waiting.clear();
        losePending();
    }

    private void losePending() {
        for (Asked one : asked) {
            if (one.state.equals("pending")) {
                one.state = "lost";
            }
        }
    }

    int client() {
        return clientState;
    }

    int server() {
        return power ? serverState : -30;
    }

    int put(int v) {
        if (put.size() == 16) {
            return -1;
        }
        put.add(v);
        return put.size();
    }

    int ask(int kind, int a, int b, int c, int d) {
        if (kind < 0 || kind > 9) {
            return THROWN;
        }
        byte[] payload = Flow.request(asked.size() + 1, kind, a, b, c, d);
        if (kind == 4 && c >= 1 && c <= 64) {
            byte[] data = new byte[64];
            for (int i = 0; i < put.size(); i++) {
                System.arraycopy(Flow.word(put.get(i)), 0, data, 4 * i, 4);
            }
            payload = Flow.join(payload, Arrays.copyOf(data, c));
        }
        if (clientState != 2 || clientCredit < payload.length || ways[0].length >= 3000) {
            return -1;
        }
        if (kind == 4) {
            put.clear();
        }
        clientCredit -= payload.length;
        sendPacket(0, clientOut, payload);
        asked.add(new Asked());
        return asked.size();
    }

    int status(int id) {
        if (id < 1 || id > asked.size()) {
            return -102;
        }
        Asked one = asked.get(id - 1);
        return one.state.equals("pending") ? -100 : one.state.equals("lost") ? -101 : one.status;
    }

    int data(int id, int i) {
        if (id < 1 || id > asked.size() || i < 0 || i >= asked.get(id - 1).read.length) {
            return THROWN;
        }
        return asked.get(id - 1).read[i] & 255;
    }

    int credit(int side) {
        if (side != 0 && side != 1) {
            return THROWN;
        }
        if (side == 0) {
            return clientState == 2 ? clientCredit : 0;
        }
        return power && serverState == 2 ? serverCredit : 0;
    }

    int way(int dir) {
        return dir == 0 || dir == 1 ? ways[dir].length : THROWN;
    }

    int octet(int dir, int i) {
        return (dir == 0 || dir == 1) && i >= 0 && i < ways[dir].length ? ways[dir][i] & 255 : THROWN;
    }

    int alter(int dir, int i, int mask) {
        if (octet(dir, i) == THROWN) {
            return THROWN;
        }
        ways[dir][i] ^= (byte) mask;
        return 0;
    }

    int move(int dir, int n) {
        if (dir != 0 && dir != 1) {
            return THROWN;
        }
        int count = Math.min(Math.max(n, 0), ways[dir].length);
        inbox[dir] = Flow.join(inbox[dir], Arrays.copyOf(ways[dir], count));
        ways[dir] = Arrays.copyOfRange(ways[dir], count, ways[dir].length);
        boolean more = true;
        while (more) {
            more = dir == 0 ? serverStep() : clientStep();
        }
        return count;
    }

    boolean cut(int n, int tear) {
        if (!power || n < -1 || n > 1000 || tear < 0 || tear > 31) {
            return false;
        }
        cutAt = n;
        return true;
    }

    int start() {
        if (power) {
            return -1;
        }
        power = true;
        cutAt = -1;
        serverState = 0;
        return written;
    }

    int changes() {
        return power ? written : -30;
    }

    /** Where the side that opens a direction's packets stands. */
    Flow opener(int dir) {
        return dir == 0 ? serverIn : clientIn;
    }

    int asked() {
        return asked.size();
    }

    int partlyCame(int dir) {
        return inbox[dir].length;
    }

    private void send(int dir, byte[] row) {
        ways[dir] = Flow.join(ways[dir], row);
    }

    private void sendPacket(int dir, Flow flow, byte[] payload) {
        byte[] plain = Flow.plain(payload);
        lastSent[dir] = payload;
        send(dir, flow.packet(plain));
        flow.goOn(plain.length);
    }

    private byte[] takeIn(int dir, int count) {
        byte[] row = Arrays.copyOf(inbox[dir], count);
        inbox[dir] = Arrays.copyOfRange(inbox[dir], count, inbox[dir].length);
        return row;
    }

    private static boolean isProper(BigInteger number) {
        return number.compareTo(BigInteger.TWO) >= 0 && number.compareTo(Flow.P.subtract(BigInteger.TWO)) <= 0;
    }

    private boolean serverStep() {
        if (!power || serverState != 1 && serverState != 2) {
            inbox[0] = new byte[0];
            return false;
        }
        if (serverState == 1) {
            if (inbox[0].length < 32) {
                return false;
            }
            serverState = serverAgrees(new BigInteger(1, takeIn(0, 32)));
            return true;
        }
        int fault = 0;
        byte[] payload = null;
        if (inbox[0].length >= 16) {
            fault = faultOfPacket(0, serverIn);
            payload = fault == 0 ? open(0, serverIn) : null;
        }
        if (payload != null && !serverDoes(payload)) {
            fault = 7;
        }
        if (fault != 0) {
            serverState = -fault;
            waiting.clear();
        }
        if (payload != null && fault == 0) {
            sendReplies();
        }
        return payload != null || fault != 0;
    }

    private int serverAgrees(BigInteger x) {
        if (!isProper(x)) {
            return -1;
        }
        BigInteger y = Flow.secret(seed, 2);
        BigInteger sentY = BigInteger.TWO.modPow(y, Flow.P);
        BigInteger common = x.modPow(y, Flow.P);
        byte[] hash = Flow.hash(x, sentY, common);
        BigInteger proof = new BigInteger(1, hash).modPow(Flow.D, Flow.N);
        send(1, Flow.join(Flow.bytes(Flow.N), Flow.bytes(sentY), Flow.bytes(proof)));
        serverIn = new Flow(Flow.bytes(common), hash, 65);
        serverOut = new Flow(Flow.bytes(common), hash, 67);
        serverCredit = 400;
        serverAnswered = 0;
        serverUngranted = 0;
        return 2;
    }

    private int clientAgrees(byte[] row) {
        if (!new BigInteger(1, Arrays.copyOf(row, 32)).equals(Flow.N)) {
            return -2;
        }
        BigInteger sentY = new BigInteger(1, Arrays.copyOfRange(row, 32, 64));
        if (!isProper(sentY)) {
            return -1;
        }
        BigInteger common = sentY.modPow(Flow.secret(seed, 1), Flow.P);
        byte[] hash = Flow.hash(sentX, sentY, common);
        BigInteger proof = new BigInteger(1, Arrays.copyOfRange(row, 64, 96));
        boolean below = proof.compareTo(Flow.N) < 0;
        if (!below || !proof.modPow(Flow.E, Flow.N).equals(new BigInteger(1, hash).mod(Flow.N))) {
            return -3;
        }
        clientOut = new Flow(Flow.bytes(common), hash, 65);
        clientIn = new Flow(Flow.bytes(common), hash, 67);
        clientCredit = 400;
        clientOpened = 0;
        return 2;
    }

    /** The fault of the packet that begins what came, as far as it came. */
    private int faultOfPacket(int dir, Flow flow) {
        byte[] row = inbox[dir];
        int length = Flow.word(flow.mask(Arrays.copyOf(row, 16)), 0);
        if (length < 12 || length > 124 || length % 16 != 12) {
            return 4;
        }
        if (row.length < length + 36) {
            return 0;
        }
        byte[] plain = flow.mask(Arrays.copyOf(row, length + 4));
        if (!Arrays.equals(flow.seal(plain), Arrays.copyOfRange(row, length + 4, length + 36))) {
            return 5;
        }
        int padding = plain[4] & 255;
        return padding < 4 || padding > length - 1 ? 6 : 0;
    }

    /** The payload of a packet without a fault; null if not all of it came. */
    private byte[] open(int dir, Flow flow) {
        int length = Flow.word(flow.mask(Arrays.copyOf(inbox[dir], 16)), 0);
        if (inbox[dir].length < length + 36) {
            return null;
        }
        byte[] plain = flow.mask(takeIn(dir, length + 4));
        takeIn(dir, 32);
        flow.goOn(plain.length);
        return Arrays.copyOfRange(plain, 5, 4 + length - (plain[4] & 255));
    }

    private static boolean isGrant(byte[] payload) {
        return payload.length == 5 && payload[0] == 2;
    }

    private boolean serverDoes(byte[] payload) {
        if (isGrant(payload)) {
            long amount = Flow.word(payload, 1);
            boolean right = amount >= 1 && serverCredit + amount <= 400;
            serverCredit += right ? (int) amount : 0;
            return right;
        }
        if (payload.length < 22 || payload[0] != 0 || payload[5] < 0 || payload[5] > 9) {
            return false;
        }
        int c = Flow.word(payload, 14);
        int data = payload[5] == 4 && c >= 1 && c <= 64 ? c : 0;
        if (payload.length != 22 + data || serverUngranted + payload.length > 400) {
            return false;
        }
        serverUngranted += payload.length;
        doRequest(payload);
        return true;
    }

    private void sendReplies() {
        while (!waiting.isEmpty() && waiting.peek().payload.length <= serverCredit && ways[1].length < 3000) {
            Waiting one = waiting.poll();
            serverCredit -= one.payload.length;
            sendPacket(1, serverOut, one.payload);
            serverAnswered += one.cost;
            if (serverAnswered >= 200 && ways[1].length < 3000) {
                sendPacket(1, serverOut, Flow.grant(serverAnswered));
                serverUngranted -= serverAnswered;
                serverAnswered = 0;
            }
        }
    }

    private boolean clientStep() {
        if (clientState != 1 && clientState != 2) {
            inbox[1] = new byte[0];
            return false;
        }
        if (clientState == 1) {
            if (inbox[1].length < 96) {
                return false;
            }
            clientState = clientAgrees(takeIn(1, 96));
            return true;
        }
        int fault = 0;
        byte[] payload = null;
        if (inbox[1].length >= 16) {
            fault = faultOfPacket(1, clientIn);
            payload = fault == 0 ? open(1, clientIn) : null;
        }
        if (payload != null && !clientReads(payload)) {
            fault = 7;
        }
        if (fault != 0) {
            clientState = -fault;
            losePending();
        }
        return payload != null || fault != 0;
    }

    private boolean clientReads(byte[] payload) {
        if (isGrant(payload)) {
            long amount = Flow.word(payload, 1);
            boolean right = amount >= 1 && clientCredit + amount <= 400;
            clientCredit += right ? (int) amount : 0;
            return right;
        }
        if (payload.length < 9 || payload.length > 73 || payload[0] != 1) {
            return false;
        }
        int id = Flow.word(payload, 1);
        if (id < 1 || id > asked.size() || !asked.get(id - 1).state.equals("pending")) {
            return false;
        }
        Asked one = asked.get(id - 1);
        one.state = "answered";
        one.status = Flow.word(payload, 5);
        one.read = Arrays.copyOfRange(payload, 9, payload.length);
        clientOpened += payload.length;
        if (clientOpened >= 200 && ways[0].length < 3000) {
            sendPacket(0, clientOut, Flow.grant(clientOpened));
            clientOpened = 0;
        }
        return true;
    }

    private void doRequest(byte[] payload) {
        int kind = payload[5];
        int[] w = new int[4];
        for (int i = 0; i < 4; i++) {
            w[i] = Flow.word(payload, 6 + 4 * i);
        }
        byte[] read = new byte[0];
        int status = judge(kind, w[0], w[1], w[2], w[3]);
        if (status >= 0 && (kind == 1 || kind == 2 || kind >= 4 && kind <= 7)) {
            if (!writeDown()) {
                power = false;
                cutAt = -1;
                waiting.clear();
                return;
            }
            change(kind, w, status, Arrays.copyOfRange(payload, 22, payload.length));
        } else if (kind == 3 && status > 0) {
            read = Arrays.copyOfRange(nodes[w[0]].bytes, w[1], w[1] + status);
        }
        Waiting reply = new Waiting();
        reply.payload = Flow.reply(Flow.word(payload, 1), status, read);
        reply.cost = payload.length;
        waiting.add(reply);
    }

    private boolean writeDown() {
        int blocks = sinceCopy == 64 ? 130 : 1;
        for (int i = 1; i <= blocks; i++) {
            if (cutAt == 0) {
                return false;
            }
            cutAt = Math.max(-1, cutAt - 1);
            if (i == 129) {
                sinceCopy = 0;
            }
        }
        sinceCopy++;
        written++;
        return true;
    }

    private Node node(int a) {
        return a < 0 || a > 63 ? null : nodes[a];
    }

    private static long name(int first, int second) {
        return ((long) first << 32) + ((long) second - Integer.MIN_VALUE);
    }

    private int freeBlocks() {
        int free = 128;
        for (Node one : nodes) {
            free -= one == null ? 0 : (one.bytes.length + 63) / 64;
        }
        return free;
    }

    private int judge(int kind, int a, int b, int c, int d) {
        Node node = node(a);
        if (node == null) {
            return -1;
        }
        boolean ofDirectory = kind <= 2 || kind == 9;
        boolean ofFile = kind >= 3 && kind <= 5;
        if (ofDirectory && !node.directory) {
            return -2;
        }
        if (ofFile && node.directory) {
            return -3;
        }
        int size = node.bytes.length;
        switch (kind) {
            case 0:
                return node.entries.getOrDefault(name(b, c), -1);
            case 1:
            case 2:
                if (b == 0 && c == 0) {
                    return -6;
                }
                if (node.entries.containsKey(name(b, c))) {
                    return -4;
                }
                int free = Arrays.asList(nodes).indexOf(null);
                return free < 0 ? -5 : free;
            case 3:
                return b < 0 || c < 1 || c > 64 ? -6 : Math.max(0, Math.min(c, size - b));
            case 4:
                if (b < 0 || b > size || c < 1 || c > 64) {
                    return -6;
                }
                int more = (Math.max(size, b + c) + 63) / 64 - (size + 63) / 64;
                return b + c > 1024 || more > freeBlocks() ? -5 : c;
            case 5:
                return b < 0 || b > size ? -6 : size;
            case 6:
                return a == 0 ? -6 : node.entries.isEmpty() ? size : -7;
            case 7:
                return judgeRelocation(a, b, c, d);
            case 8:
                return b == 0 ? node.directory ? 1 : 2 : b == 1 ? size : b == 2 ? node.parent : -6;
            default:
                List<Integer> row = new ArrayList<>(node.entries.values());
                return b < 0 || b >= row.size() ? -1 : row.get(b);
        }
    }

    private int judgeRelocation(int a, int b, int c, int d) {
        Node target = node(b);
        if (target == null) {
            return -1;
        }
        if (!target.directory) {
            return -2;
        }
        if (c == 0 && d == 0) {
            return -6;
        }
        if (target.entries.containsKey(name(c, d))) {
            return -4;
        }
        int at = b;
        while (at != a && at != 0) {
            at = nodes[at].parent;
        }
        return at == a ? -6 : a;
    }

    private void change(int kind, int[] w, int status, byte[] data) {
        Node node = nodes[w[0]];
        if (kind == 1 || kind == 2) {
            nodes[status] = new Node(kind == 1);
            settle(status, w[0], name(w[1], w[2]));
        } else if (kind == 4) {
            node.bytes = Arrays.copyOf(node.bytes, Math.max(node.bytes.length, w[1] + data.length));
            System.arraycopy(data, 0, node.bytes, w[1], data.length);
        } else if (kind == 5) {
            node.bytes = Arrays.copyOf(node.bytes, w[1]);
        } else {
            nodes[node.parent].entries.remove(node.name);
            if (kind == 6) {
                nodes[w[0]] = null;
            } else {
                settle(w[0], w[1], name(w[2], w[3]));
            }
        }
    }

    private void settle(int node, int parent, long name) {
        nodes[node].parent = parent;
        nodes[node].name = name;
        nodes[parent].entries.put(name, node);
    }
}
