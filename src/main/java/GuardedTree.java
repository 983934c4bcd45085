/**
 * A guarded connection to a tree of files: a client and a server that agree on keys and send one another
 * sealed packets, and a tree on the server's disk, kept by a journal.
 */
public final class GuardedTree {
    public static final int NONE = -1;
    public static final int NO_NODE = -1, NOT_DIR = -2, IS_DIR = -3, EXISTS = -4, NO_ROOM = -5, WRONG = -6, NOT_EMPTY = -7;
    public static final int NO_POWER = -30, PENDING = -100, LOST = -101, UNKNOWN = -102;

    private static final int LOOK = 0, NEW_DIRECTORY = 1, NEW_FILE = 2, READ = 3, WRITE = 4;
    private static final int SHORTEN = 5, REMOVE = 6, RELOCATE = 7, TELL = 8, ENTRY = 9;

    /** How far a side is; a side with a fault has minus its fault here. */
    private static final int APART = 0, AGREEING = 1, OPEN = 2;

    private static final int FAULT_NUMBER = 1, FAULT_HOST = 2, FAULT_PROOF = 3;
    private static final int FAULT_LENGTH = 4, FAULT_SEAL = 5, FAULT_PADDING = 6, FAULT_PAYLOAD = 7;

    private static final int REQUEST = 0, REPLY = 1, GRANT = 2;
    private static final int REQUEST_BYTES = 22, REPLY_BYTES = 9, GRANT_BYTES = 5, MOST_DATA = 64;
    private static final int FULL_CREDIT = 400, GRANTED_FROM = 200;

    private static final int TO_SERVER = 65, TO_CLIENT = 67;

    private final Client clientSide = new Client();
    private final Server serverSide = new Server();
    private final Line toServer = new Line();
    private final Line toClient = new Line();
    private int connections;

    public GuardedTree() {
    }

    public int connect(int seed) {
        if (!serverSide.disk.power) {
            return NO_POWER;
        }
        endConnection();
        connections++;
        clientSide.begin(seed, toServer);
        serverSide.begin(seed);
        return connections;
    }

    public void close() {
        endConnection();
    }

    public int client() {
        return clientSide.state;
    }

    public int server() {
        return serverSide.disk.power ? serverSide.state : NO_POWER;
    }

    public int put(int v) {
        return clientSide.keepWord(v);
    }

    public int ask(int kind, int a, int b, int c, int d) throws IllegalArgumentException {
        if (kind < LOOK || kind > ENTRY) {
            throw new IllegalArgumentException();
        }
        int size = REQUEST_BYTES + dataBytes(kind, c);
        if (toServer.isFull() || !clientSide.maySend(size)) {
            return NONE;
        }
        clientSide.composeRequest(kind, a, b, c, d);
        clientSide.out.send(toServer);
        return clientSide.asked;
    }

    public int status(int id) {
        Request request = clientSide.find(id);
        if (request == null) {
            return UNKNOWN;
        }
        return request.pending ? PENDING : request.answer;
    }

    public int data(int id, int i) throws IndexOutOfBoundsException {
        Request request = clientSide.find(id);
        if (request == null || request.bytes == null || i < 0 || i >= request.bytes.length) {
            throw new IndexOutOfBoundsException();
        }
        return request.bytes[i] & 255;
    }

    public int credit(int side) throws IndexOutOfBoundsException {
        if (side < 0 || side > 1) {
            throw new IndexOutOfBoundsException();
        }
        if (side == 0) {
            return clientSide.state == OPEN ? clientSide.out.allowance : 0;
        }
        return serverSide.state == OPEN ? serverSide.out.allowance : 0;
    }

    public int way(int dir) throws IndexOutOfBoundsException {
        return line(dir).size;
    }

    public int octet(int dir, int i) throws IndexOutOfBoundsException {
        Line line = line(dir);
        if (i < 0 || i >= line.size) {
            throw new IndexOutOfBoundsException();
        }
        return line.bytes[i] & 255;
    }

    public void alter(int dir, int i, int mask) throws IndexOutOfBoundsException {
        Line line = line(dir);
        if (i < 0 || i >= line.size) {
            throw new IndexOutOfBoundsException();
        }
        line.bytes[i] = (byte) (line.bytes[i] ^ mask);
    }

    public int move(int dir, int n) throws IndexOutOfBoundsException {
        Line line = line(dir);
        int count = Math.max(0, Math.min(n, line.size));
        for (int i = 0; i < count; i++) {
            if (dir == 0) {
                serverSide.take(line.bytes[i] & 255, toClient);
            } else {
                clientSide.take(line.bytes[i] & 255, toServer);
            }
        }
        line.drop(count);
        return count;
    }

    public boolean cut(int n, int tear) {
        // A torn block has its last word missing at least, so it never counts, wherever it is torn.
        if (!serverSide.disk.power || n < -1 || n > 1000 || tear < 0 || tear > 31) {
            return false;
        }
        serverSide.disk.blocksLeft = n;
        return true;
    }

    public int start() {
        if (serverSide.disk.power) {
            return NONE;
        }
        serverSide.disk.power = true;
        return serverSide.disk.written;
    }

    public int changes() {
        return serverSide.disk.power ? serverSide.disk.written : NO_POWER;
    }

    private void endConnection() {
        toServer.size = 0;
        toClient.size = 0;
        clientSide.end(APART);
        serverSide.end(APART);
    }

    private Line line(int dir) {
        if (dir < 0 || dir > 1) {
            throw new IndexOutOfBoundsException();
        }
        return dir == 0 ? toServer : toClient;
    }

    /** How many bytes of data go with a request. */
    private static int dataBytes(int kind, int c) {
        return kind == WRITE && c >= 1 && c <= MOST_DATA ? c : 0;
    }

    /** What the client knows of a request that it sent. */
    private static final class Request {
        boolean pending = true;
        int answer;
        byte[] bytes;
    }

    /** The side that asks. */
    private static final class Client {
        static final int MOST_REQUESTS = 512, MOST_WORDS = 16;

        final Agreement agreement = new Agreement();
        final Channel in = new Channel();
        final Channel out = new Channel();
        final Request[] requests = new Request[MOST_REQUESTS];
        final int[] words = new int[MOST_WORDS];
        int state = APART;
        int asked;
        int wordCount;
        int ungranted;

        void begin(int seed, Line line) {
            agreement.begin(seed, 1);
            agreement.reckonOwn();
            line.addNumber(agreement.own);
            state = AGREEING;
        }

        /** Leaves the connection, with a fault or without one. */
        void end(int newState) {
            state = newState;
            for (int i = 0; i < asked; i++) {
                Request request = requests[i];
                if (request != null && request.pending) {
                    request.pending = false;
                    request.answer = LOST;
                }
            }
        }

        Request find(int id) {
            return id >= 1 && id <= asked ? requests[id - 1] : null;
        }

        int keepWord(int v) {
            if (wordCount >= MOST_WORDS) {
                return NONE;
            }
            words[wordCount] = v;
            wordCount++;
            return wordCount;
        }

        boolean maySend(int size) {
            return state == OPEN && out.allowance >= size && asked < MOST_REQUESTS;
        }

        void composeRequest(int kind, int a, int b, int c, int d) {
            requests[asked] = new Request();
            asked++;
            out.compose(REQUEST);
            out.addWord(asked);
            out.addByte(kind);
            out.addWord(a);
            out.addWord(b);
            out.addWord(c);
            out.addWord(d);
            int count = dataBytes(kind, c);
            for (int i = 0; i < count; i++) {
                out.addByte(words[i / 4] >>> 24 - i % 4 * 8);
            }
            out.allowance -= REQUEST_BYTES + count;
            if (kind == WRITE) {
                forgetWords();
            }
        }

        private void forgetWords() {
            for (int i = 0; i < MOST_WORDS; i++) {
                words[i] = 0;
            }
            wordCount = 0;
        }

        void take(int b, Line line) {
            if (state == AGREEING) {
                if (agreement.take(b) == Agreement.SERVER_BYTES) {
                    finishAgreeing();
                }
            } else if (state == OPEN) {
                int found = in.feed(b);
                if (found == Channel.OPENED && !isRight()) {
                    found = FAULT_PAYLOAD;
                }
                if (found > 0) {
                    end(-found);
                } else if (found == Channel.OPENED && in.isGrant()) {
                    out.allowance += in.wordAt(1);
                } else if (found == Channel.OPENED) {
                    takeReply(line);
                }
            }
        }

        private void finishAgreeing() {
            int fault = agreement.verify();
            if (fault != 0) {
                end(-fault);
                return;
            }
            out.begin(agreement.reckonKeys(TO_SERVER));
            in.begin(agreement.reckonKeys(TO_CLIENT));
            ungranted = 0;
            state = OPEN;
        }

        private boolean isRight() {
            if (in.isGrant()) {
                return out.mayAllow(in.wordAt(1));
            }
            return in.byteAt(0) == REPLY && in.payload >= REPLY_BYTES && in.payload <= REPLY_BYTES + MOST_DATA
                && isPending(find(in.wordAt(1)));
        }

        private static boolean isPending(Request request) {
            return request != null && request.pending;
        }

        private void takeReply(Line line) {
            keepReply(find(in.wordAt(1)));
            ungranted += in.payload;
            if (ungranted >= GRANTED_FROM && !line.isFull()) {
                out.composeGrant(ungranted);
                out.send(line);
                ungranted = 0;
            }
        }

        private void keepReply(Request request) {
            if (request == null) {
                return;
            }
            int count = in.payload - REPLY_BYTES;
            request.pending = false;
            request.answer = in.wordAt(5);
            request.bytes = new byte[count];
            for (int i = 0; i < count; i++) {
                request.bytes[i] = (byte) in.byteAt(REPLY_BYTES + i);
            }
        }
    }

    /** The side that answers, with the tree and its disk. */
    private static final class Server {
        /** More requests than these can't wait: they would have more bytes than the client's credit. */
        static final int ROW = FULL_CREDIT / REQUEST_BYTES;

        final Agreement agreement = new Agreement();
        final Channel in = new Channel();
        final Channel out = new Channel();
        final Tree tree = new Tree();
        final Disk disk = new Disk();
        final int[] numbers = new int[ROW];
        final int[] answers = new int[ROW];
        final int[] counts = new int[ROW];
        final int[] costs = new int[ROW];
        final byte[] bytes = new byte[ROW * MOST_DATA];
        int state = APART;
        int first;
        int waiting;
        int ungranted;
        int answered;

        void begin(int seed) {
            agreement.begin(seed, 2);
            state = AGREEING;
        }

        /** Leaves the connection, with a fault or without one. */
        void end(int newState) {
            state = newState;
            waiting = 0;
        }

        void take(int b, Line line) {
            if (state == AGREEING) {
                if (agreement.take(b) == Agreement.CLIENT_BYTES) {
                    finishAgreeing(line);
                }
            } else if (state == OPEN) {
                int found = in.feed(b);
                if (found == Channel.OPENED && !isRight()) {
                    found = FAULT_PAYLOAD;
                }
                if (found > 0) {
                    end(-found);
                } else if (found == Channel.OPENED) {
                    if (in.isGrant()) {
                        out.allowance += in.wordAt(1);
                    } else {
                        doRequest();
                    }
                    sendReplies(line);
                }
            }
        }

        private void finishAgreeing(Line line) {
            int fault = agreement.respond(line);
            if (fault != 0) {
                end(-fault);
                return;
            }
            in.begin(agreement.reckonKeys(TO_SERVER));
            out.begin(agreement.reckonKeys(TO_CLIENT));
            ungranted = 0;
            answered = 0;
            state = OPEN;
        }

        private boolean isRight() {
            if (in.isGrant()) {
                return out.mayAllow(in.wordAt(1));
            }
            return isRequest() && ungranted + in.payload <= FULL_CREDIT && waiting < ROW;
        }

        private boolean isRequest() {
            if (in.payload < REQUEST_BYTES || in.byteAt(0) != REQUEST) {
                return false;
            }
            int kind = in.byteAt(5);
            return kind <= ENTRY && in.payload == REQUEST_BYTES + dataBytes(kind, in.wordAt(14));
        }

        private void doRequest() {
            ungranted += in.payload;
            int kind = in.byteAt(5);
            int a = in.wordAt(6);
            int b = in.wordAt(10);
            int c = in.wordAt(14);
            int d = in.wordAt(18);
            int answer = tree.answer(kind, a, b, c, d);
            if (answer >= 0 && Tree.isChange(kind)) {
                if (!disk.writeDown()) {
                    end(APART);
                    return;
                }
                if (kind == WRITE) {
                    tree.write(a, b, c, in);
                } else {
                    tree.change(kind, a, b, c, d, answer);
                }
            }
            int at = addReply(answer);
            if (kind == READ && answer > 0) {
                counts[at] = answer;
                tree.copyOut(a, b, answer, bytes, at * MOST_DATA);
            }
        }

        /** Puts the reply to the request that was opened behind those that wait: its place. */
        private int addReply(int answer) {
            int at = (first + waiting) % ROW;
            waiting++;
            numbers[at] = in.wordAt(1);
            answers[at] = answer;
            costs[at] = in.payload;
            counts[at] = 0;
            return at;
        }

        private void sendReplies(Line line) {
            for (int i = 0; i < ROW && waiting > 0; i++) {
                int size = REPLY_BYTES + counts[first];
                if (out.allowance < size || line.isFull()) {
                    return;
                }
                composeReply(size);
                out.send(line);
                answered += costs[first];
                first = (first + 1) % ROW;
                waiting--;
                if (answered >= GRANTED_FROM && !line.isFull()) {
                    out.composeGrant(answered);
                    out.send(line);
                    ungranted -= answered;
                    answered = 0;
                }
            }
        }

        private void composeReply(int size) {
            out.compose(REPLY);
            out.addWord(numbers[first]);
            out.addWord(answers[first]);
            for (int i = 0; i < counts[first]; i++) {
                out.addByte(bytes[first * MOST_DATA + i]);
            }
            out.allowance -= size;
        }
    }

    /** What was written on the disk, as counts: torn or unwritten blocks are never done, whole ones always are. */
    private static final class Disk {
        static final int CHANGES_TO_A_COPY = 64, COPY_BLOCKS = 129;

        boolean power = true;
        /** Blocks until the one at which power goes; below 0 it stays. */
        int blocksLeft = -1;
        int written;
        int sinceCopy;

        /** Writes a change down, behind a copy if one is due; false if power went. */
        boolean writeDown() {
            if (sinceCopy >= CHANGES_TO_A_COPY) {
                if (!writeBlocks(COPY_BLOCKS)) {
                    return false;
                }
                sinceCopy = 0;
            }
            if (!writeBlocks(1)) {
                return false;
            }
            sinceCopy++;
            written++;
            return true;
        }

        private boolean writeBlocks(int count) {
            if (blocksLeft < 0) {
                return true;
            }
            if (blocksLeft < count) {
                power = false;
                blocksLeft = -1;
                return false;
            }
            blocksLeft -= count;
            return true;
        }
    }

    /** The nodes and their bytes. A request is first judged by answer, then done by write or change. */
    private static final class Tree {
        static final int NODES = 64, BLOCKS = 128, BLOCK = 64, LONGEST = 1024, PARTS = LONGEST / BLOCK;
        static final int FREE = 0, DIRECTORY = 1, FILE = 2;

        final int[] kinds = new int[NODES];
        /** The directory in which a node lies; NO_NODE of the root and of those that are free. */
        final int[] parents = new int[NODES];
        final int[] names = new int[NODES];
        final int[] moreNames = new int[NODES];
        final int[] sizes = new int[NODES];
        final int[] parts = new int[NODES * PARTS];
        final byte[] bytes = new byte[BLOCKS * BLOCK];
        final int[] spare = new int[BLOCKS];
        int spareCount = BLOCKS;

        Tree() {
            for (int i = 0; i < NODES; i++) {
                parents[i] = NO_NODE;
            }
            kinds[0] = DIRECTORY;
            for (int i = 0; i < BLOCKS; i++) {
                spare[i] = i;
            }
        }

        static boolean isChange(int kind) {
            return kind == NEW_DIRECTORY || kind == NEW_FILE || kind >= WRITE && kind <= RELOCATE;
        }

        /** The status that a request has, without doing it. */
        int answer(int kind, int a, int b, int c, int d) {
            if (!isNode(a)) {
                return NO_NODE;
            }
            switch (kind) {
                case LOOK:
                    return kinds[a] != DIRECTORY ? NOT_DIR : named(a, b, c);
                case NEW_DIRECTORY:
                case NEW_FILE:
                    return answerNew(a, b, c);
                case READ:
                    return answerRead(a, b, c);
                case WRITE:
                    return answerWrite(a, b, c);
                case SHORTEN:
                    return answerShorten(a, b);
                case REMOVE:
                    return answerRemove(a);
                case RELOCATE:
                    return answerRelocate(a, b, c, d);
                case TELL:
                    return answerTell(a, b);
                default:
                    return kinds[a] != DIRECTORY ? NOT_DIR : entry(a, b);
            }
        }

        private boolean isNode(int node) {
            return node >= 0 && node < NODES && kinds[node] != FREE;
        }

        /** The node in a directory with a name, or NO_NODE. */
        private int named(int directory, int name, int moreName) {
            for (int i = 1; i < NODES; i++) {
                if (parents[i] == directory && names[i] == name && moreNames[i] == moreName) {
                    return i;
                }
            }
            return NO_NODE;
        }

        private int answerNew(int a, int b, int c) {
            int refusal = refusedPlace(a, b, c);
            if (refusal != 0) {
                return refusal;
            }
            for (int i = 1; i < NODES; i++) {
                if (kinds[i] == FREE) {
                    return i;
                }
            }
            return NO_ROOM;
        }

        /** Why nothing can be put into a directory with a name, or 0. */
        private int refusedPlace(int directory, int name, int moreName) {
            if (!isNode(directory)) {
                return NO_NODE;
            }
            if (kinds[directory] != DIRECTORY) {
                return NOT_DIR;
            }
            if (name == 0 && moreName == 0) {
                return WRONG;
            }
            return named(directory, name, moreName) == NO_NODE ? 0 : EXISTS;
        }

        private int answerRead(int a, int b, int c) {
            if (kinds[a] == DIRECTORY) {
                return IS_DIR;
            }
            if (b < 0 || c < 1 || c > MOST_DATA) {
                return WRONG;
            }
            return b >= sizes[a] ? 0 : Math.min(c, sizes[a] - b);
        }

        private int answerWrite(int a, int b, int c) {
            if (kinds[a] == DIRECTORY) {
                return IS_DIR;
            }
            if (b < 0 || b > sizes[a] || c < 1 || c > MOST_DATA) {
                return WRONG;
            }
            if (b + c > LONGEST || blocksFor(b + c) - blocksFor(sizes[a]) > spareCount) {
                return NO_ROOM;
            }
            return c;
        }

        private static int blocksFor(int size) {
            return (size + BLOCK - 1) / BLOCK;
        }

        private int answerShorten(int a, int b) {
            if (kinds[a] == DIRECTORY) {
                return IS_DIR;
            }
            return b < 0 || b > sizes[a] ? WRONG : sizes[a];
        }

        private int answerRemove(int a) {
            if (a == 0) {
                return WRONG;
            }
            for (int i = 1; i < NODES; i++) {
                if (parents[i] == a) {
                    return NOT_EMPTY;
                }
            }
            return sizes[a];
        }

        private int answerRelocate(int a, int b, int c, int d) {
            int refusal = refusedPlace(b, c, d);
            if (refusal != 0) {
                return refusal;
            }
            return isAtOrUnder(b, a) ? WRONG : a;
        }

        private boolean isAtOrUnder(int node, int top) {
            int at = node;
            for (int i = 0; i < NODES && at != top && at != 0; i++) {
                at = parents[at];
            }
            return at == top;
        }

        private int answerTell(int a, int b) {
            switch (b) {
                case 0:
                    return kinds[a];
                case 1:
                    return sizes[a];
                case 2:
                    return a == 0 ? 0 : parents[a];
                default:
                    return WRONG;
            }
        }

        /** The entry of a directory before which so many others come, or NO_NODE. */
        private int entry(int directory, int before) {
            for (int i = 1; i < NODES; i++) {
                if (parents[i] == directory && countBefore(i, directory) == before) {
                    return i;
                }
            }
            return NO_NODE;
        }

        private int countBefore(int node, int directory) {
            int count = 0;
            for (int i = 1; i < NODES; i++) {
                if (parents[i] == directory && comesBefore(i, node)) {
                    count++;
                }
            }
            return count;
        }

        private boolean comesBefore(int node, int other) {
            return names[node] < names[other] || names[node] == names[other] && moreNames[node] < moreNames[other];
        }

        /** Does a request that changes the tree but a WRITE, with the answer that it was judged to have. */
        void change(int kind, int a, int b, int c, int d, int answer) {
            switch (kind) {
                case NEW_DIRECTORY:
                    kinds[answer] = DIRECTORY;
                    place(answer, a, b, c);
                    break;
                case NEW_FILE:
                    kinds[answer] = FILE;
                    place(answer, a, b, c);
                    break;
                case SHORTEN:
                    resize(a, b);
                    break;
                case REMOVE:
                    resize(a, 0);
                    kinds[a] = FREE;
                    parents[a] = NO_NODE;
                    break;
                case RELOCATE:
                    place(a, b, c, d);
                    break;
                default:
                    break;
            }
        }

        private void place(int node, int directory, int name, int moreName) {
            parents[node] = directory;
            names[node] = name;
            moreNames[node] = moreName;
        }

        private void resize(int node, int size) {
            int had = blocksFor(sizes[node]);
            int has = blocksFor(size);
            for (int i = had; i < has && spareCount > 0; i++) {
                spareCount--;
                parts[node * PARTS + i] = spare[spareCount];
            }
            for (int i = has; i < had && spareCount < BLOCKS; i++) {
                spare[spareCount] = parts[node * PARTS + i];
                spareCount++;
            }
            sizes[node] = size;
        }

        private int placeOf(int node, int at) {
            return parts[node * PARTS + at / BLOCK] * BLOCK + at % BLOCK;
        }

        /** Does a WRITE whose data is in the payload that a channel opened. */
        void write(int node, int from, int count, Channel channel) {
            if (from + count > sizes[node]) {
                resize(node, from + count);
            }
            for (int i = 0; i < count; i++) {
                bytes[placeOf(node, from + i)] = (byte) channel.byteAt(REQUEST_BYTES + i);
            }
        }

        void copyOut(int node, int from, int count, byte[] row, int at) {
            for (int i = 0; i < count; i++) {
                row[at + i] = bytes[placeOf(node, from + i)];
            }
        }
    }

    /** The bytes that are on the way to a side. */
    private static final class Line {
        static final int FULL = 3000, ROOM = FULL + Channel.MOST_BYTES;

        final byte[] bytes = new byte[ROOM];
        int size;

        /** Whether the side that sends has to hold back. */
        boolean isFull() {
            return size >= FULL;
        }

        void addByte(int b) {
            if (size < ROOM) {
                bytes[size] = (byte) b;
                size++;
            }
        }

        void addNumber(int[] number) {
            for (int i = 0; i < number.length * 4; i++) {
                addByte(number[i / 4] >>> 24 - i % 4 * 8);
            }
        }

        void drop(int count) {
            for (int i = count; i < size; i++) {
                bytes[i - count] = bytes[i];
            }
            size -= count;
        }
    }

    /** One side's end of a direction: it composes and sends packets, or opens those that come. */
    private static final class Channel {
        static final int HEAD = 5, LEAST_LENGTH = 12, MOST_LENGTH = 124, LEAST_PADDING = 4, SEAL = 32, BLOCK = 16;
        static final int MOST_BYTES = 4 + MOST_LENGTH + SEAL;
        static final int MORE = 0, OPENED = -1;

        final byte[] packet = new byte[MOST_BYTES];
        final Cipher cipher = new Cipher();
        final Digest digest = new Digest();
        final int[] sealKey = new int[8];
        /** How many bytes of payloads may still be sent. */
        int allowance;
        int size;
        int length;
        int payload;
        int number;

        void begin(int[] keys) {
            cipher.begin(keys);
            for (int i = 0; i < sealKey.length; i++) {
                sealKey[i] = keys[8 + i];
            }
            allowance = FULL_CREDIT;
            size = 0;
            number = 0;
        }

        void compose(int kind) {
            size = HEAD;
            addByte(kind);
        }

        void composeGrant(int amount) {
            compose(GRANT);
            addWord(amount);
        }

        void addByte(int b) {
            if (size < MOST_BYTES) {
                packet[size] = (byte) b;
                size++;
            }
        }

        void addWord(int word) {
            addByte(word >>> 24);
            addByte(word >>> 16);
            addByte(word >>> 8);
            addByte(word);
        }

        /** Sends the payload that was composed. */
        void send(Line line) {
            int padding = LEAST_PADDING + (-(size + LEAST_PADDING) & BLOCK - 1);
            for (int i = 0; i < padding; i++) {
                addByte(37 * i);
            }
            int whole = size;
            size = 0;
            addWord(whole - 4);
            addByte(padding);
            digest.seal(sealKey, number, packet, whole);
            number++;
            for (int at = 0; at + BLOCK <= whole; at += BLOCK) {
                cipher.mask(packet, at);
            }
            for (int i = 0; i < whole; i++) {
                line.addByte(packet[i]);
            }
            line.addNumber(digest.state);
        }

        /** Takes a byte that came: MORE are needed, a packet is OPENED, or a fault. */
        int feed(int b) {
            addByte(b);
            if (size % BLOCK == 0 && (size == BLOCK || size <= 4 + length)) {
                cipher.mask(packet, size - BLOCK);
            }
            if (size == BLOCK) {
                length = packetWord(0);
                if (length < LEAST_LENGTH || length > MOST_LENGTH || length % BLOCK != LEAST_LENGTH) {
                    return FAULT_LENGTH;
                }
            }
            return size <= BLOCK || size < 4 + length + SEAL ? MORE : open();
        }

        private int open() {
            int whole = 4 + length;
            digest.seal(sealKey, number, packet, whole);
            size = 0;
            number++;
            for (int i = 0; i < 8; i++) {
                if (packetWord(whole + 4 * i) != digest.state[i]) {
                    return FAULT_SEAL;
                }
            }
            int padding = packet[4] & 255;
            if (padding < LEAST_PADDING || padding > length - 1) {
                return FAULT_PADDING;
            }
            payload = length - 1 - padding;
            return OPENED;
        }

        private int packetWord(int at) {
            if (at < 0 || at + 4 > MOST_BYTES) {
                return 0;
            }
            return packet[at] << 24 | (packet[at + 1] & 255) << 16 | (packet[at + 2] & 255) << 8 | packet[at + 3] & 255;
        }

        /** Byte i of the payload that was opened. */
        int byteAt(int i) {
            return i >= 0 && HEAD + i < MOST_BYTES ? packet[HEAD + i] & 255 : 0;
        }

        int wordAt(int i) {
            return packetWord(HEAD + i);
        }

        boolean isGrant() {
            return payload == GRANT_BYTES && byteAt(0) == GRANT;
        }

        /** Whether a grant that came for this direction can be meant so: no more than was sent. */
        boolean mayAllow(int amount) {
            return amount >= 1 && amount <= FULL_CREDIT - allowance;
        }
    }

    /** How a side agrees on keys with the other one. */
    private static final class Agreement {
        static final int NUMBER = 8, CLIENT_BYTES = 32, SERVER_BYTES = 96;
        static final int[] P = {-1, -1, -1, -1, -1, -1, -1, 0xffffff43};
        static final int[] P_LESS_1 = {-1, -1, -1, -1, -1, -1, -1, 0xffffff42};
        static final int[] G = {0, 0, 0, 0, 0, 0, 0, 2};
        static final int[] N = {
            0xffff8495, 0xbc581049, 0xedcc18fa, 0x439a5151, 0x233c6ecc, 0xb080c75a, 0x4f1c86f1, 0xc88fa521};
        static final int[] E = {0, 0, 0, 0, 0, 0, 0, 65537};
        static final int[] D = {
            0x259bc842, 0xa734d8cf, 0xc39ba45f, 0xbfe6bfe3, 0x3c6e0a8a, 0xa03c0b08, 0xe105bbe7, 0xdb01b941};
        /** 2^512 modulo P and modulo N, which Modulus needs. */
        static final int[] SQUARE_P = {0, 0, 0, 0, 0, 0, 0, 35721};
        static final int[] SQUARE_N = {
            0xada52ec2, 0x3723cafc, 0x10c21af9, 0x0f76bb2d, 0x337be531, 0x488bc5bc, 0x46de01d4, 0x5e590037};

        final Digest digest = new Digest();
        final Modulus field = new Modulus(P, SQUARE_P);
        final Modulus host = new Modulus(N, SQUARE_N);
        final int[] came = new int[SERVER_BYTES / 4];
        final int[] secret = new int[NUMBER];
        final int[] own = new int[NUMBER];
        final int[] other = new int[NUMBER];
        final int[] common = new int[NUMBER];
        final int[] hash = new int[NUMBER];
        final int[] proof = new int[NUMBER];
        final int[] proven = new int[NUMBER];
        final int[] keys = new int[2 * NUMBER];
        int count;

        void begin(int seed, int who) {
            count = 0;
            digest.clear();
            digest.addWord(seed);
            digest.addWord(who);
            digest.finish();
            copy(digest.state, 0, secret);
        }

        void reckonOwn() {
            field.power(G, secret, own);
        }

        /** Takes a byte that came: how many there are. */
        int take(int b) {
            if (count < SERVER_BYTES) {
                came[count / 4] = came[count / 4] << 8 | b;
                count++;
            }
            return count;
        }

        /** The server's part: its three numbers go out; a fault, or 0. */
        int respond(Line line) {
            copy(came, 0, other);
            if (!isProper(other)) {
                return FAULT_NUMBER;
            }
            reckonOwn();
            field.power(other, secret, common);
            reckonHash(other, own);
            host.power(hash, D, proof);
            line.addNumber(N);
            line.addNumber(own);
            line.addNumber(proof);
            return 0;
        }

        /** The client's part: a fault of what the server sent, or 0. */
        int verify() {
            copy(came, 0, other);
            if (!Modulus.isSame(other, N)) {
                return FAULT_HOST;
            }
            copy(came, NUMBER, other);
            if (!isProper(other)) {
                return FAULT_NUMBER;
            }
            field.power(other, secret, common);
            reckonHash(own, other);
            copy(came, 2 * NUMBER, proof);
            if (!Modulus.isBelow(proof, N)) {
                return FAULT_PROOF;
            }
            host.power(proof, E, proven);
            host.remainder(hash, proof);
            return Modulus.isSame(proven, proof) ? 0 : FAULT_PROOF;
        }

        private static boolean isProper(int[] number) {
            return !Modulus.isBelow(number, G) && Modulus.isBelow(number, P_LESS_1);
        }

        private void reckonHash(int[] clients, int[] servers) {
            digest.clear();
            digest.addNumber(P);
            digest.addNumber(G);
            digest.addNumber(N);
            digest.addNumber(clients);
            digest.addNumber(servers);
            digest.addNumber(common);
            digest.finish();
            copy(digest.state, 0, hash);
        }

        int[] reckonKeys(int letter) {
            for (int half = 0; half < 2; half++) {
                digest.clear();
                digest.addNumber(common);
                digest.addNumber(hash);
                digest.addByte(letter + half);
                digest.finish();
                for (int i = 0; i < NUMBER; i++) {
                    keys[half * NUMBER + i] = digest.state[i];
                }
            }
            return keys;
        }

        private static void copy(int[] row, int at, int[] number) {
            for (int i = 0; i < NUMBER; i++) {
                number[i] = row[at + i];
            }
        }
    }

    /**
     * Powers modulo an odd number m above 2^255. Within a power each number x is held as x 2^256 modulo m
     * (Montgomery's way): a product is then brought below m without a division.
     */
    private static final class Modulus {
        static final int WORDS = 8, BITS = 256;
        static final long LOW = 0xffffffffL;
        static final int[] ONE = {0, 0, 0, 0, 0, 0, 0, 1};

        final int[] modulus;
        final int[] square;
        final int[] sum = new int[WORDS];
        final int[] base = new int[WORDS];
        final int[] result = new int[WORDS];
        /** With which the lowest word of the modulus has a product of -1 modulo 2^32. */
        final int inverse;

        Modulus(int[] modulus, int[] square) {
            this.modulus = modulus;
            this.square = square;
            int lowest = modulus[WORDS - 1];
            int x = 1;
            for (int i = 0; i < 5; i++) {
                x *= 2 - lowest * x;
            }
            inverse = -x;
        }

        static boolean isBelow(int[] a, int[] b) {
            for (int i = 0; i < WORDS; i++) {
                if (a[i] != b[i]) {
                    return (a[i] & LOW) < (b[i] & LOW);
                }
            }
            return false;
        }

        static boolean isSame(int[] a, int[] b) {
            for (int i = 0; i < WORDS; i++) {
                if (a[i] != b[i]) {
                    return false;
                }
            }
            return true;
        }

        void remainder(int[] number, int[] out) {
            for (int i = 0; i < WORDS; i++) {
                out[i] = number[i];
            }
            if (!isBelow(out, modulus)) {
                subtractModulus(out);
            }
        }

        private void subtractModulus(int[] number) {
            long borrow = 0;
            for (int i = WORDS - 1; i >= 0; i--) {
                long difference = (number[i] & LOW) - (modulus[i] & LOW) + borrow;
                number[i] = (int) difference;
                borrow = difference >> 32;
            }
        }

        void power(int[] number, int[] exponent, int[] out) {
            multiply(number, square, base);
            multiply(ONE, square, result);
            boolean begun = false;
            for (int i = 0; i < BITS; i++) {
                if (begun) {
                    multiply(result, result, result);
                }
                if ((exponent[i / 32] >>> 31 - i % 32 & 1) != 0) {
                    multiply(result, base, result);
                    begun = true;
                }
            }
            multiply(result, ONE, out);
        }

        /** The product of two numbers, one of them at least below m, over 2^256, modulo m. */
        private void multiply(int[] a, int[] b, int[] out) {
            for (int i = 0; i < WORDS; i++) {
                sum[i] = 0;
            }
            long top = 0;
            for (int i = WORDS - 1; i >= 0; i--) {
                top = addProduct(a, b[i] & LOW, top);
            }
            if (top != 0 || !isBelow(sum, modulus)) {
                subtractModulus(sum);
            }
            for (int i = 0; i < WORDS; i++) {
                out[i] = sum[i];
            }
        }

        /** Adds a's product with a word to the sum, and as many m as let the lowest word be dropped: the new top. */
        private long addProduct(int[] a, long word, long top) {
            int last = WORDS - 1;
            long carry = (a[last] & LOW) * word + (sum[last] & LOW);
            long times = (int) carry * inverse & LOW;
            long shift = (modulus[last] & LOW) * times + (carry & LOW) >>> 32;
            carry >>>= 32;
            for (int j = last - 1; j >= 0; j--) {
                carry += (a[j] & LOW) * word + (sum[j] & LOW);
                shift += (modulus[j] & LOW) * times + (carry & LOW);
                sum[j + 1] = (int) shift;
                carry >>>= 32;
                shift >>>= 32;
            }
            long highest = top + carry + shift;
            sum[0] = (int) highest;
            return highest >>> 32;
        }
    }

    /** Blocks that are enciphered, one for each count of a counter. */
    private static final class Cipher {
        static final int ROUNDS = 10, BLOCK = 16;
        static final int[] S = {
            99, 124, 119, 123, 242, 107, 111, 197, 48, 1, 103, 43, 254, 215, 171, 118,
            202, 130, 201, 125, 250, 89, 71, 240, 173, 212, 162, 175, 156, 164, 114, 192,
            183, 253, 147, 38, 54, 63, 247, 204, 52, 165, 229, 241, 113, 216, 49, 21,
            4, 199, 35, 195, 24, 150, 5, 154, 7, 18, 128, 226, 235, 39, 178, 117,
            9, 131, 44, 26, 27, 110, 90, 160, 82, 59, 214, 179, 41, 227, 47, 132,
            83, 209, 0, 237, 32, 252, 177, 91, 106, 203, 190, 57, 74, 76, 88, 207,
            208, 239, 170, 251, 67, 77, 51, 133, 69, 249, 2, 127, 80, 60, 159, 168,
            81, 163, 64, 143, 146, 157, 56, 245, 188, 182, 218, 33, 16, 255, 243, 210,
            205, 12, 19, 236, 95, 151, 68, 23, 196, 167, 126, 61, 100, 93, 25, 115,
            96, 129, 79, 220, 34, 42, 144, 136, 70, 238, 184, 20, 222, 94, 11, 219,
            224, 50, 58, 10, 73, 6, 36, 92, 194, 211, 172, 98, 145, 149, 228, 121,
            231, 200, 55, 109, 141, 213, 78, 169, 108, 86, 244, 234, 101, 122, 174, 8,
            186, 120, 37, 46, 28, 166, 180, 198, 232, 221, 116, 31, 75, 189, 139, 138,
            112, 62, 181, 102, 72, 3, 246, 14, 97, 53, 87, 185, 134, 193, 29, 158,
            225, 248, 152, 17, 105, 217, 142, 148, 155, 30, 135, 233, 206, 85, 40, 223,
            140, 161, 137, 13, 191, 230, 66, 104, 65, 153, 45, 15, 176, 84, 187, 22};

        final int[] words = new int[4 * (ROUNDS + 1)];
        final int[] counter = new int[4];
        final int[] block = new int[BLOCK];
        final int[] former = new int[BLOCK];

        void begin(int[] keys) {
            for (int i = 0; i < 4; i++) {
                words[i] = keys[i];
                counter[i] = keys[4 + i];
            }
            int power = 1;
            for (int i = 4; i < words.length; i++) {
                int x = words[i - 1];
                if (i % 4 == 0) {
                    x = substituted(x << 8 | x >>> 24) ^ power << 24;
                    power = twice(power);
                }
                words[i] = words[i - 4] ^ x;
            }
        }

        private static int substituted(int word) {
            return S[word >>> 24] << 24 | S[word >>> 16 & 255] << 16 | S[word >>> 8 & 255] << 8 | S[word & 255];
        }

        private static int twice(int b) {
            return b << 1 ^ (b >> 7) * 0x11b;
        }

        /** Xors sixteen bytes of a row with the counter's block, enciphered, and counts up. */
        void mask(byte[] row, int at) {
            for (int i = 0; i < BLOCK; i++) {
                block[i] = counter[i / 4] >>> 24 - i % 4 * 8 & 255;
            }
            addWords(0);
            for (int k = 1; k <= ROUNDS; k++) {
                substituteAndShift();
                if (k < ROUNDS) {
                    mixFours();
                }
                addWords(k);
            }
            for (int i = 0; i < BLOCK; i++) {
                row[at + i] = (byte) (row[at + i] ^ block[i]);
            }
            countUp();
        }

        private void addWords(int k) {
            for (int i = 0; i < BLOCK; i++) {
                block[i] ^= words[4 * k + i / 4] >>> 24 - i % 4 * 8 & 255;
            }
        }

        private void substituteAndShift() {
            for (int i = 0; i < BLOCK; i++) {
                former[i] = S[block[i] & 255];
            }
            for (int i = 0; i < BLOCK; i++) {
                block[i] = former[(i + 4 * (i % 4)) % BLOCK];
            }
        }

        private void mixFours() {
            for (int c = 0; c < BLOCK; c += 4) {
                int a0 = block[c];
                int a1 = block[c + 1];
                int a2 = block[c + 2];
                int a3 = block[c + 3];
                int all = a0 ^ a1 ^ a2 ^ a3;
                block[c] = a0 ^ all ^ twice(a0 ^ a1);
                block[c + 1] = a1 ^ all ^ twice(a1 ^ a2);
                block[c + 2] = a2 ^ all ^ twice(a2 ^ a3);
                block[c + 3] = a3 ^ all ^ twice(a3 ^ a0);
            }
        }

        private void countUp() {
            boolean carry = true;
            for (int i = 3; i >= 0 && carry; i--) {
                counter[i]++;
                carry = counter[i] == 0;
            }
        }
    }

    /** The digest of bytes that are added one behind another, and seals by it. */
    private static final class Digest {
        static final int ROW = 64, ROOM = 256, TAIL = 9, SEAL_KEY = 64;
        static final int INNER = 54, OUTER = 92;
        static final int[] FIRST = {
            0x6a09e667, 0xbb67ae85, 0x3c6ef372, 0xa54ff53a, 0x510e527f, 0x9b05688c, 0x1f83d9ab, 0x5be0cd19};
        static final int[] K = {
            0x428a2f98, 0x71374491, 0xb5c0fbcf, 0xe9b5dba5, 0x3956c25b, 0x59f111f1, 0x923f82a4, 0xab1c5ed5,
            0xd807aa98, 0x12835b01, 0x243185be, 0x550c7dc3, 0x72be5d74, 0x80deb1fe, 0x9bdc06a7, 0xc19bf174,
            0xe49b69c1, 0xefbe4786, 0x0fc19dc6, 0x240ca1cc, 0x2de92c6f, 0x4a7484aa, 0x5cb0a9dc, 0x76f988da,
            0x983e5152, 0xa831c66d, 0xb00327c8, 0xbf597fc7, 0xc6e00bf3, 0xd5a79147, 0x06ca6351, 0x14292967,
            0x27b70a85, 0x2e1b2138, 0x4d2c6dfc, 0x53380d13, 0x650a7354, 0x766a0abb, 0x81c2c92e, 0x92722c85,
            0xa2bfe8a1, 0xa81a664b, 0xc24b8b70, 0xc76c51a3, 0xd192e819, 0xd6990624, 0xf40e3585, 0x106aa070,
            0x19a4c116, 0x1e376c08, 0x2748774c, 0x34b0bcb5, 0x391c0cb3, 0x4ed8aa4a, 0x5b9cca4f, 0x682e6ff3,
            0x748f82ee, 0x78a5636f, 0x84c87814, 0x8cc70208, 0x90befffa, 0xa4506ceb, 0xbef9a3f7, 0xc67178f2};

        final int[] state = new int[8];
        final byte[] text = new byte[ROOM];
        final int[] w = new int[ROW];
        final int[] inner = new int[8];
        int size;

        void clear() {
            size = 0;
        }

        void addByte(int b) {
            if (size < ROOM - TAIL) {
                text[size] = (byte) b;
                size++;
            }
        }

        void addWord(int word) {
            addByte(word >>> 24);
            addByte(word >>> 16);
            addByte(word >>> 8);
            addByte(word);
        }

        void addNumber(int[] number) {
            for (int i = 0; i < number.length * 4; i++) {
                addByte(number[i / 4] >>> 24 - i % 4 * 8);
            }
        }

        /** Leaves the seal of a packet with its number in the state. */
        void seal(int[] key, int number, byte[] packet, int count) {
            addKey(key, INNER);
            addWord(number);
            for (int i = 0; i < count && i < packet.length; i++) {
                addByte(packet[i]);
            }
            finish();
            for (int i = 0; i < inner.length; i++) {
                inner[i] = state[i];
            }
            addKey(key, OUTER);
            addNumber(inner);
            finish();
        }

        private void addKey(int[] key, int mask) {
            clear();
            for (int i = 0; i < SEAL_KEY; i++) {
                int b = i / 4 < key.length ? key[i / 4] >>> 24 - i % 4 * 8 : 0;
                addByte(b ^ mask);
            }
        }

        /** Leaves the digest of what was added in the state. */
        void finish() {
            int end = (size + TAIL + ROW - 1) / ROW * ROW;
            for (int i = size; i < end; i++) {
                text[i] = 0;
            }
            text[size] = (byte) 128;
            int bits = size * 8;
            text[end - 2] = (byte) (bits >>> 8);
            text[end - 1] = (byte) bits;
            for (int i = 0; i < state.length; i++) {
                state[i] = FIRST[i];
            }
            for (int at = 0; at < end; at += ROW) {
                spread(at);
                mix();
            }
        }

        private void spread(int at) {
            for (int t = 0; t < 16; t++) {
                int i = at + 4 * t;
                w[t] = text[i] << 24 | (text[i + 1] & 255) << 16 | (text[i + 2] & 255) << 8 | text[i + 3] & 255;
            }
            for (int t = 16; t < ROW; t++) {
                int x = w[t - 15];
                int s = (x >>> 7 | x << 25) ^ (x >>> 18 | x << 14) ^ x >>> 3;
                x = w[t - 2];
                int r = (x >>> 17 | x << 15) ^ (x >>> 19 | x << 13) ^ x >>> 10;
                w[t] = w[t - 16] + s + w[t - 7] + r;
            }
        }

        private void mix() {
            int a = state[0];
            int b = state[1];
            int c = state[2];
            int d = state[3];
            int e = state[4];
            int f = state[5];
            int g = state[6];
            int h = state[7];
            for (int t = 0; t < ROW; t++) {
                int turnedE = (e >>> 6 | e << 26) ^ (e >>> 11 | e << 21) ^ (e >>> 25 | e << 7);
                int u = h + turnedE + (e & f ^ ~e & g) + K[t] + w[t];
                int turnedA = (a >>> 2 | a << 30) ^ (a >>> 13 | a << 19) ^ (a >>> 22 | a << 10);
                int v = turnedA + (a & b ^ a & c ^ b & c);
                h = g;
                g = f;
                f = e;
                e = d + u;
                d = c;
                c = b;
                b = a;
                a = u + v;
            }
            state[0] += a;
            state[1] += b;
            state[2] += c;
            state[3] += d;
            state[4] += e;
            state[5] += f;
            state[6] += g;
            state[7] += h;
        }
    }
}
