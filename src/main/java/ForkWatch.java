import java.util.Arrays;
import java.util.NoSuchElementException;

/**
 * A simulator of a block service that cannot be trusted, and of clients that detect forked histories by chained
 * receipts. The terms (branch, receipt, blame record, witness board, healing) are those of the document.
 */
public final class ForkWatch {
    private static final int MAX_CLIENTS = 6;
    private static final int MAX_BLOCKS = 16;
    private static final int MAX_INTERVAL = 50;
    private static final int MAX_BRANCHES = 8;
    private static final int MAX_ENTRIES = 200;
    private static final int MAX_VALUE = 999999;
    private static final int MAX_STEPS = 60;
    private static final int MAX_DIGITS = 6;
    private static final int MAX_OPERANDS = 3;
    private static final int MAX_TEXT = 900;
    private static final int FEED_BYTES = 20;
    private static final int MAX_BLAMES = 60;
    private static final int MAX_POSTS = 40;

    private static final long MODULUS = 2147483647L;
    private static final long CHAIN_FACTOR = 1000003L;
    private static final long CLIENT_FACTOR = 7919L;
    private static final long BLOCK_FACTOR = 104729L;
    private static final long VALUE_FACTOR = 15485863L;
    private static final long LINK_FACTOR = 1299709L;
    private static final int FIRST_HASH = 1;
    private static final int FIRST_SEAL = 1;

    private static final int READ = 0;
    private static final int WRITE = 1;
    private static final int MERGE = 2;
    private static final int NOBODY = -1;

    private static final int ROLLBACK_CASE = 1;
    private static final int FORK_CASE = 2;
    private static final int TAMPERING_CASE = 3;
    private static final int WITNESS_CASE = 4;

    private static final int BLAME_ROLLBACK = 1;
    private static final int BLAME_FORK = 2;
    private static final int BLAME_TAMPERING = 3;
    private static final int BLAME_PARTS = 6;

    private static final int POST_CLIENT = 0;
    private static final int POST_POSITION = 1;
    private static final int POST_HASH = 2;
    private static final int POST_SEAL = 3;
    private static final int POST_PARTS = 4;

    private static final int ENTRY_PARTS = 7;
    private static final int RECEIPT_PARTS = 3;

    private static final int SYNTAX = 1;
    private static final int RANGE = 2;
    private static final int LIMIT = 3;

    // Why a call is refused: no answer of a call that may be a step is negative, so these stand in its place.
    private static final int NO_SUCH = -1;
    private static final int BAD_ARGUMENT = -2;
    private static final int BAD_STATE = -3;

    private final Parser parser = new Parser();
    private final Service service = new Service();
    private int fed;
    private int refusedSteps;

    public ForkWatch() {
    }

    // ---- input

    public int feed(int a, int b, int c, int d, int e) throws IllegalStateException {
        if (fed > MAX_TEXT - FEED_BYTES) {
            throw new IllegalStateException("the buffer is full");
        }
        putBytes(a);
        putBytes(b);
        putBytes(c);
        putBytes(d);
        putBytes(e);
        return fed;
    }

    private void putBytes(int four) {
        for (int shift = 24; shift >= 0 && fed < MAX_TEXT; shift -= 8) {
            parser.tokens.text[fed] = (byte) (four >>> shift);
            fed++;
        }
    }

    public int load(int length) throws IllegalArgumentException, IllegalStateException {
        takeBuffer(length);
        parser.parseService(length);
        if (parser.hasFailed()) {
            throw new IllegalStateException("the text of the service has an error");
        }
        service.begin(parser.clientCount, parser.blockCount, parser.interval);
        refusedSteps = 0;
        return service.clientCount;
    }

    public int run(int length) throws IllegalArgumentException, IllegalStateException {
        takeBuffer(length);
        if (service.clientCount == 0) {
            throw new IllegalStateException("there is no service");
        }
        parser.parseScript(length, service.clientCount, service.blockCount);
        if (parser.hasFailed()) {
            throw new IllegalStateException("the text of the script has an error");
        }
        int done = 0;
        for (int step = 0; step < parser.stepCount; step++) {
            if (doStep(parser.steps[step]) >= 0) {
                done++;
            }
        }
        refusedSteps = parser.stepCount - done;
        return done;
    }

    /** Empties the buffer. Its text can still be parsed, since its bytes stay in place until others are fed. */
    private void takeBuffer(int length) {
        if (length < 0 || length > fed) {
            throw new IllegalArgumentException("the length is out of range");
        }
        fed = 0;
    }

    private int doStep(Step step) {
        int first = step.numbers[0];
        int second = step.numbers[1];
        int third = step.numbers[2];
        switch (step.kind) {
            case WRITES:
                return service.doWrite(first, second, third);
            case READS:
                return service.doRead(first, second);
            case FORK:
                return service.doFork(first);
            case MOVE:
                return service.doMove(first, second);
            case REWIND:
                return service.doRewind(first, second);
            case CORRUPT:
                return service.doCorrupt(first, second, third);
            case EXCHANGE:
                return service.doExchange(first, second);
            case POST:
                return service.doPost(first);
            case HEAL:
                return service.doHeal(first, second);
            default:
                return BAD_ARGUMENT;
        }
    }

    public int errorCode() {
        return parser.failCode;
    }

    public int errorPosition() {
        return parser.failPosition;
    }

    public int refused() {
        return refusedSteps;
    }

    // ---- operations of clients

    public int write(int client, int block, int value)
            throws NoSuchElementException, IllegalArgumentException, IllegalStateException {
        return answerOf(service.doWrite(client, block, value));
    }

    public int read(int client, int block) throws NoSuchElementException, IllegalStateException {
        return answerOf(service.doRead(client, block));
    }

    public int exchange(int client, int other) throws NoSuchElementException {
        return answerOf(service.doExchange(client, other));
    }

    public int post(int client) throws NoSuchElementException {
        return answerOf(service.doPost(client));
    }

    public boolean calm(int client) throws NoSuchElementException {
        requireClient(client);
        boolean was = service.clients[client].suspicious;
        service.clients[client].suspicious = false;
        return was;
    }

    public int adopt(int client) throws NoSuchElementException {
        requireClient(client);
        Client who = service.clients[client];
        who.takeHistory(service.branches[who.seen]);
        who.suspicious = false;
        return who.position;
    }

    // ---- what the service does

    public int fork(int clients) throws IllegalArgumentException, IllegalStateException {
        return answerOf(service.doFork(clients));
    }

    public int move(int client, int branch) throws NoSuchElementException {
        return answerOf(service.doMove(client, branch));
    }

    public int rewind(int branch, int count) throws NoSuchElementException, IllegalArgumentException {
        return answerOf(service.doRewind(branch, count));
    }

    public int corrupt(int branch, int position, int value)
            throws NoSuchElementException, IllegalArgumentException, IllegalStateException {
        return answerOf(service.doCorrupt(branch, position, value));
    }

    public int heal(int x, int y) throws NoSuchElementException, IllegalStateException {
        return answerOf(service.doHeal(x, y));
    }

    // ---- questions about the service

    public int clients() {
        return service.clientCount;
    }

    public int blocks() {
        return service.blockCount;
    }

    public int branches() {
        return service.branchCount;
    }

    public int length(int branch) throws NoSuchElementException {
        requireBranch(branch);
        return service.branches[branch].size;
    }

    public int entry(int branch, int position, int what) throws NoSuchElementException, IllegalArgumentException {
        requireBranch(branch);
        if (!service.branches[branch].hasEntry(position)) {
            throw new NoSuchElementException("no such entry");
        }
        requirePart(what, ENTRY_PARTS);
        return service.branches[branch].partOf(position, what);
    }

    public int value(int branch, int block) throws NoSuchElementException {
        requireBranch(branch);
        if (!service.hasBlock(block)) {
            throw new NoSuchElementException("no such block");
        }
        return service.branches[branch].lastValue(block);
    }

    public int branchOf(int client) throws NoSuchElementException {
        requireClient(client);
        return service.clients[client].seen;
    }

    public int commonLength(int x, int y) throws NoSuchElementException {
        requireBranch(x);
        requireBranch(y);
        return service.branches[x].sharedWith(service.branches[y]);
    }

    public int conflicts(int x, int y) throws NoSuchElementException {
        requireBranch(x);
        requireBranch(y);
        return service.branches[x].conflictsWith(service.branches[y]);
    }

    // ---- questions about clients

    public int receipt(int client, int what) throws NoSuchElementException, IllegalArgumentException {
        requireClient(client);
        requirePart(what, RECEIPT_PARTS);
        Client who = service.clients[client];
        if (what == 0) {
            return who.position;
        }
        return what == 1 ? who.lastHash() : signatureOf(client, who.position, who.lastHash());
    }

    public boolean isSigned(int client, int position, int hash, int signature) {
        boolean given = service.hasClient(client) && position >= 0 && position <= MAX_ENTRIES
                && hash >= 0 && hash < MODULUS;
        return given && signature == signatureOf(client, position, hash);
    }

    public int hashAt(int client, int position) throws NoSuchElementException {
        requireClient(client);
        if (position < 0 || position > service.clients[client].position) {
            throw new NoSuchElementException("no such position");
        }
        return service.clients[client].hashes[position];
    }

    public int vector(int client, int other) throws NoSuchElementException {
        requireClient(client);
        requireClient(other);
        return service.clients[client].counts[other];
    }

    public int order(int client, int other) throws NoSuchElementException {
        requireClient(client);
        requireClient(other);
        return service.clients[client].orderTo(service.clients[other]);
    }

    public boolean isSuspicious(int client) throws NoSuchElementException {
        requireClient(client);
        return service.clients[client].suspicious;
    }

    public int wouldFind(int client) throws NoSuchElementException {
        requireClient(client);
        return service.caseFor(client);
    }

    public int forkedPairs() {
        int pairs = 0;
        for (int one = 0; one < service.clientCount; one++) {
            for (int two = one + 1; two < service.clientCount; two++) {
                if (service.clients[one].isForkedFrom(service.clients[two])) {
                    pairs++;
                }
            }
        }
        return pairs;
    }

    public int seenBy(int client) throws NoSuchElementException {
        requireClient(client);
        Client who = service.clients[client];
        int set = 0;
        for (int other = 0; other < service.clientCount; other++) {
            Client viewer = service.clients[other];
            if (other != client && viewer.counts[client] >= who.counts[client] && !viewer.isForkedFrom(who)) {
                set |= 1 << other;
            }
        }
        return set;
    }

    // ---- blame records and the witness board

    public int blames() {
        return service.blames.rows;
    }

    public int blame(int index, int what) throws NoSuchElementException, IllegalArgumentException {
        if (!service.blames.hasRow(index)) {
            throw new NoSuchElementException("no such blame record");
        }
        requirePart(what, BLAME_PARTS);
        return service.blames.partOf(index, what);
    }

    public int posts() {
        return service.board.rows;
    }

    public int boardPost(int index, int what) throws NoSuchElementException, IllegalArgumentException {
        requirePost(index);
        requirePart(what, POST_PARTS);
        return service.board.partOf(index, what);
    }

    public int checkPost(int client, int index) throws NoSuchElementException {
        requireClient(client);
        requirePost(index);
        Client who = service.clients[client];
        int position = service.board.partOf(index, POST_POSITION);
        if (who.position < position) {
            return 2;
        }
        return who.hashes[position] == service.board.partOf(index, POST_HASH) ? 0 : 1;
    }

    // ---- checks of arguments

    private void requireClient(int client) {
        if (!service.hasClient(client)) {
            throw new NoSuchElementException("no such client");
        }
    }

    private void requireBranch(int branch) {
        if (!service.hasBranch(branch)) {
            throw new NoSuchElementException("no such branch");
        }
    }

    private void requirePost(int index) {
        if (!service.board.hasRow(index)) {
            throw new NoSuchElementException("no such post");
        }
    }

    private static void requirePart(int what, int parts) {
        if (what < 0 || what >= parts) {
            throw new IllegalArgumentException("what is out of range");
        }
    }

    private static int answerOf(int outcome) {
        if (outcome == NO_SUCH) {
            throw new NoSuchElementException("no such client, block, branch or entry");
        }
        if (outcome == BAD_ARGUMENT) {
            throw new IllegalArgumentException("an argument is out of range");
        }
        if (outcome == BAD_STATE) {
            throw new IllegalStateException("the call is refused in this state");
        }
        return outcome;
    }

    private static int signatureOf(int client, int position, int hash) {
        return (int) ((hash * 31L + position * 17L + client * 13L + 12345L) % MODULUS);
    }

    /** The least position up to last at which the hashes are different; last + 1 if there is none. */
    private static int firstDifference(int[] one, int[] two, int last) {
        for (int at = 0; at <= last && at <= MAX_ENTRIES; at++) {
            if (one[at] != two[at]) {
                return at;
            }
        }
        return last + 1;
    }

    /** A branch of the service's history: its entries stand at the positions 1 to size. */
    private static final class Branch {
        final int[] kinds = new int[MAX_ENTRIES + 1];
        final int[] authors = new int[MAX_ENTRIES + 1];
        final int[] targets = new int[MAX_ENTRIES + 1];
        final int[] values = new int[MAX_ENTRIES + 1];
        final int[] links = new int[MAX_ENTRIES + 1];
        final int[] hashes = new int[MAX_ENTRIES + 1];
        int size;

        Branch() {
            hashes[0] = FIRST_HASH;
        }

        void copyFrom(Branch other) {
            int count = other.size + 1;
            System.arraycopy(other.kinds, 0, kinds, 0, count);
            System.arraycopy(other.authors, 0, authors, 0, count);
            System.arraycopy(other.targets, 0, targets, 0, count);
            System.arraycopy(other.values, 0, values, 0, count);
            System.arraycopy(other.links, 0, links, 0, count);
            System.arraycopy(other.hashes, 0, hashes, 0, count);
            size = other.size;
        }

        boolean isFull() {
            return size >= MAX_ENTRIES;
        }

        boolean hasEntry(int position) {
            return position >= 1 && position <= size;
        }

        int lastHash() {
            return hashes[size];
        }

        void append(int kind, int author, int target, int value, int link) {
            if (isFull()) {
                return;
            }
            size++;
            kinds[size] = kind;
            authors[size] = author;
            targets[size] = target;
            values[size] = value;
            links[size] = link;
            hashes[size] = computedHash(size);
        }

        void appendMerge(int link) {
            append(MERGE, NOBODY, NOBODY, 0, link);
        }

        /** The entries of other behind the common length get new hashes here, since they stand behind others. */
        void appendOwn(Branch other, int common) {
            for (int at = common + 1; at <= other.size; at++) {
                append(other.kinds[at], other.authors[at], other.targets[at], other.values[at], other.links[at]);
            }
        }

        /** What the hash of an entry should be, behind the hash that stands before it. */
        int computedHash(int position) {
            if (position < 1 || position > size) {
                return FIRST_HASH;
            }
            long sum = hashes[position - 1] * CHAIN_FACTOR + position;
            if (kinds[position] == MERGE) {
                sum += links[position] * LINK_FACTOR;
            } else {
                sum += authors[position] * CLIENT_FACTOR + targets[position] * BLOCK_FACTOR;
            }
            if (kinds[position] == WRITE) {
                sum += (values[position] + 1) * VALUE_FACTOR;
            }
            return (int) (sum % MODULUS);
        }

        /** The first position behind start whose hash is not the one computed; size + 1 if there is none. */
        int firstUnsound(int start) {
            for (int at = start + 1; at <= size; at++) {
                if (hashes[at] != computedHash(at)) {
                    return at;
                }
            }
            return size + 1;
        }

        int lastValue(int block) {
            for (int at = size; at >= 1; at--) {
                if (kinds[at] == WRITE && targets[at] == block) {
                    return values[at];
                }
            }
            return 0;
        }

        int partOf(int position, int what) {
            if (!hasEntry(position)) {
                return 0;
            }
            switch (what) {
                case 0:
                    return kinds[position];
                case 1:
                    return authors[position];
                case 2:
                    return targets[position];
                case 3:
                    return values[position];
                case 4:
                    return hashes[position];
                case 5:
                    return links[position];
                default:
                    return hashes[position] == computedHash(position) ? 1 : 0;
            }
        }

        int sharedWith(Branch other) {
            return firstDifference(hashes, other.hashes, Math.min(size, other.size)) - 1;
        }

        /** The set of the blocks that entries of this kind behind start work on. */
        int blocksOf(int kind, int start) {
            int set = 0;
            for (int at = start + 1; at <= size; at++) {
                if (kinds[at] == kind) {
                    set |= 1 << targets[at];
                }
            }
            return set;
        }

        int conflictsWith(Branch other) {
            int common = sharedWith(other);
            int ourWrites = blocksOf(WRITE, common);
            int theirWrites = other.blocksOf(WRITE, common);
            int ours = ourWrites | blocksOf(READ, common);
            int theirs = theirWrites | other.blocksOf(READ, common);
            return (ourWrites & theirs) | (theirWrites & ours);
        }
    }

    /** A client: the hashes of its history stand at the positions 0 to position. */
    private static final class Client {
        final int[] hashes = new int[MAX_ENTRIES + 1];
        final int[] counts = new int[MAX_CLIENTS];
        int position;
        int seen;
        int operations;
        boolean suspicious;

        void begin() {
            hashes[0] = FIRST_HASH;
            Arrays.fill(counts, 0);
            position = 0;
            seen = 0;
            operations = 0;
            suspicious = false;
        }

        int lastHash() {
            return hashes[position];
        }

        void takeHistory(Branch branch) {
            position = branch.size;
            System.arraycopy(branch.hashes, 0, hashes, 0, position + 1);
            Arrays.fill(counts, 0);
            for (int at = 1; at <= position; at++) {
                int author = branch.authors[at];
                if (author >= 0 && author < MAX_CLIENTS) {
                    counts[author]++;
                }
            }
        }

        boolean fits(Branch branch) {
            return position <= branch.size && branch.hashes[position] == hashes[position];
        }

        boolean isForkedFrom(Client other) {
            int low = Math.min(position, other.position);
            return hashes[low] != other.hashes[low];
        }

        int firstDifferenceTo(Client other) {
            return firstDifference(hashes, other.hashes, Math.min(position, other.position));
        }

        int orderTo(Client other) {
            boolean greater = false;
            boolean less = false;
            for (int who = 0; who < MAX_CLIENTS; who++) {
                greater = greater || counts[who] > other.counts[who];
                less = less || counts[who] < other.counts[who];
            }
            if (greater) {
                return less ? 3 : 2;
            }
            return less ? 1 : 0;
        }
    }

    /** Rows of numbers, of which only the latest are kept. */
    private static final class Ledger {
        final int limit;
        final int width;
        final int[] cells;
        int rows;

        Ledger(int limit, int width) {
            this.limit = Math.max(limit, 1);
            this.width = Math.max(width, 1);
            this.cells = new int[this.limit * this.width];
        }

        boolean hasRow(int row) {
            return row >= 0 && row < rows;
        }

        /** Adds a row, for which the oldest one may have to go. Its parts are whatever stood there: set them all. */
        int addRow() {
            if (rows >= limit) {
                System.arraycopy(cells, width, cells, 0, (limit - 1) * width);
                rows = limit - 1;
            }
            rows++;
            return rows - 1;
        }

        int partOf(int row, int part) {
            int at = row * width + part;
            return at >= 0 && at < cells.length ? cells[at] : 0;
        }

        void setPart(int row, int part, int number) {
            int at = row * width + part;
            if (at >= 0 && at < cells.length) {
                cells[at] = number;
            }
        }
    }

    /**
     * The service with its clients, its witness board and the blame records. The methods do... answer a number that is
     * not negative, or why the call is refused, so that scripts need no exceptions for refused steps.
     */
    private static final class Service {
        final Branch[] branches = new Branch[MAX_BRANCHES];
        final Client[] clients = new Client[MAX_CLIENTS];
        final Ledger blames = new Ledger(MAX_BLAMES, BLAME_PARTS);
        final Ledger board = new Ledger(MAX_POSTS, POST_PARTS);
        int clientCount;
        int blockCount;
        int branchCount;
        int interval = 1;
        int lastSeal = FIRST_SEAL;

        Service() {
            for (int at = 0; at < MAX_BRANCHES; at++) {
                branches[at] = new Branch();
            }
            for (int at = 0; at < MAX_CLIENTS; at++) {
                clients[at] = new Client();
            }
        }

        void begin(int newClients, int newBlocks, int newInterval) {
            clientCount = newClients;
            blockCount = newBlocks;
            interval = newInterval;
            branchCount = 1;
            branches[0].size = 0;
            for (int at = 0; at < MAX_CLIENTS; at++) {
                clients[at].begin();
            }
            blames.rows = 0;
            board.rows = 0;
            lastSeal = FIRST_SEAL;
        }

        boolean hasClient(int client) {
            return client >= 0 && client < clientCount;
        }

        boolean hasBlock(int block) {
            return block >= 0 && block < blockCount;
        }

        boolean hasBranch(int branch) {
            return branch >= 0 && branch < branchCount;
        }

        int doWrite(int client, int block, int value) {
            if (!hasClient(client) || !hasBlock(block)) {
                return NO_SUCH;
            }
            if (value < 0 || value > MAX_VALUE) {
                return BAD_ARGUMENT;
            }
            return operate(WRITE, client, block, value) ? clients[client].position : BAD_STATE;
        }

        int doRead(int client, int block) {
            if (!hasClient(client) || !hasBlock(block)) {
                return NO_SUCH;
            }
            return operate(READ, client, block, 0) ? branches[clients[client].seen].lastValue(block) : BAD_STATE;
        }

        /** Does an operation unless the client is suspicious, finds a reason to be, or the branch is full. */
        boolean operate(int kind, int client, int block, int value) {
            Client who = clients[client];
            if (who.suspicious) {
                return false;
            }
            int found = caseFor(client);
            if (found != 0) {
                blameService(client, found);
                who.suspicious = true;
                return false;
            }
            Branch branch = branches[who.seen];
            if (branch.isFull()) {
                return false;
            }
            branch.append(kind, client, block, value, 0);
            who.takeHistory(branch);
            who.operations++;
            if (interval > 0 && who.operations % interval == 0) {
                addPost(client);
            }
            return true;
        }

        /** The first case of an operation that applies, 0 for none. */
        int caseFor(int client) {
            Client who = clients[client];
            Branch branch = branches[who.seen];
            if (branch.size < who.position) {
                return ROLLBACK_CASE;
            }
            if (!who.fits(branch)) {
                return FORK_CASE;
            }
            if (branch.firstUnsound(who.position) <= branch.size) {
                return TAMPERING_CASE;
            }
            return firstRefutedBy(branch) < board.rows ? WITNESS_CASE : 0;
        }

        /** The first post that tells another hash than the branch has; the number of posts if there is none. */
        int firstRefutedBy(Branch branch) {
            for (int post = 0; post < board.rows; post++) {
                int position = board.partOf(post, POST_POSITION);
                if (position <= branch.size && branch.hashes[position] != board.partOf(post, POST_HASH)) {
                    return post;
                }
            }
            return board.rows;
        }

        void blameService(int client, int found) {
            Client who = clients[client];
            Branch branch = branches[who.seen];
            if (found == ROLLBACK_CASE) {
                addBlame(BLAME_ROLLBACK, client, NOBODY, who.position, who.lastHash(), branch.lastHash());
            } else if (found == FORK_CASE) {
                int at = Math.min(firstDifference(who.hashes, branch.hashes, who.position), who.position);
                addBlame(BLAME_FORK, client, NOBODY, at, who.hashes[at], branch.hashes[at]);
            } else if (found == TAMPERING_CASE) {
                int at = Math.min(branch.firstUnsound(who.position), branch.size);
                addBlame(BLAME_TAMPERING, client, NOBODY, at, branch.computedHash(at), branch.hashes[at]);
            } else {
                int post = firstRefutedBy(branch);
                int at = Math.min(board.partOf(post, POST_POSITION), branch.size);
                int witness = board.partOf(post, POST_CLIENT);
                addBlame(BLAME_FORK, client, witness, at, branch.hashes[at], board.partOf(post, POST_HASH));
            }
        }

        void addBlame(int kind, int client, int other, int position, int firstHash, int secondHash) {
            int row = blames.addRow();
            blames.setPart(row, 0, kind);
            blames.setPart(row, 1, client);
            blames.setPart(row, 2, other);
            blames.setPart(row, 3, position);
            blames.setPart(row, 4, firstHash);
            blames.setPart(row, 5, secondHash);
        }

        void addPost(int client) {
            Client who = clients[client];
            int hash = who.lastHash();
            long sum = lastSeal * CHAIN_FACTOR + hash * 7919L + who.position * 17L + client;
            lastSeal = (int) (sum % MODULUS);
            int row = board.addRow();
            board.setPart(row, POST_CLIENT, client);
            board.setPart(row, POST_POSITION, who.position);
            board.setPart(row, POST_HASH, hash);
            board.setPart(row, POST_SEAL, lastSeal);
        }

        int doExchange(int client, int other) {
            if (!hasClient(client) || !hasClient(other) || client == other) {
                return NO_SUCH;
            }
            Client one = clients[client];
            Client two = clients[other];
            if (one.isForkedFrom(two)) {
                int at = Math.min(one.firstDifferenceTo(two), one.position);
                addBlame(BLAME_FORK, client, other, at, one.hashes[at], two.hashes[at]);
                one.suspicious = true;
                two.suspicious = true;
                return 3;
            }
            if (one.position == two.position) {
                return 0;
            }
            return one.position < two.position ? 1 : 2;
        }

        int doPost(int client) {
            if (!hasClient(client)) {
                return NO_SUCH;
            }
            addPost(client);
            return board.rows;
        }

        int doFork(int set) {
            if (set == 0 || set >>> clientCount != 0) {
                return BAD_ARGUMENT;
            }
            int source = branchSeenBy(set);
            if (source < 0 || branchCount >= MAX_BRANCHES) {
                return BAD_STATE;
            }
            int made = branchCount;
            branchCount++;
            branches[made].copyFrom(branches[source]);
            for (int at = 0; at < clientCount; at++) {
                if ((set >> at & 1) != 0) {
                    clients[at].seen = made;
                }
            }
            return made;
        }

        /** The branch that all clients of the set see; -1 if they do not see the same one. */
        int branchSeenBy(int set) {
            int branch = -1;
            for (int at = 0; at < clientCount; at++) {
                if ((set >> at & 1) != 0) {
                    if (branch >= 0 && branch != clients[at].seen) {
                        return -1;
                    }
                    branch = clients[at].seen;
                }
            }
            return branch;
        }

        int doMove(int client, int branch) {
            if (!hasClient(client) || !hasBranch(branch)) {
                return NO_SUCH;
            }
            int before = clients[client].seen;
            clients[client].seen = branch;
            return before;
        }

        int doRewind(int branch, int count) {
            if (!hasBranch(branch)) {
                return NO_SUCH;
            }
            if (count < 1 || count > branches[branch].size) {
                return BAD_ARGUMENT;
            }
            branches[branch].size -= count;
            return branches[branch].size;
        }

        int doCorrupt(int branch, int position, int value) {
            if (!hasBranch(branch) || !branches[branch].hasEntry(position)) {
                return NO_SUCH;
            }
            if (value < 0 || value > MAX_VALUE) {
                return BAD_ARGUMENT;
            }
            Branch changed = branches[branch];
            if (changed.kinds[position] != WRITE) {
                return BAD_STATE;
            }
            int before = changed.values[position];
            changed.values[position] = value;
            return before;
        }

        int doHeal(int x, int y) {
            if (!hasBranch(x) || !hasBranch(y) || x == y) {
                return NO_SUCH;
            }
            int common = branches[x].sharedWith(branches[y]);
            int size = branches[x].size + 1 + branches[y].size - common;
            if (branches[x].conflictsWith(branches[y]) != 0 || branchCount >= MAX_BRANCHES || size > MAX_ENTRIES) {
                return BAD_STATE;
            }
            int made = branchCount;
            branchCount++;
            branches[made].copyFrom(branches[x]);
            branches[made].appendMerge(branches[y].lastHash());
            branches[made].appendOwn(branches[y], common);
            for (int at = 0; at < clientCount; at++) {
                if (clients[at].seen == x || clients[at].seen == y) {
                    bringOver(clients[at], clients[at].seen == y, common, made);
                }
            }
            return made;
        }

        /** Lets a client of a healed branch see the new branch; one whose history was not the branch's keeps it. */
        void bringOver(Client who, boolean fromHealed, int common, int made) {
            if (who.fits(branches[who.seen])) {
                who.suspicious = false;
                if (fromHealed && who.position > common) {
                    who.takeHistory(branches[made]);
                }
            }
            who.seen = made;
        }
    }

    /**
     * The kinds of tokens; those of the words that name a step are also the kinds of steps. The operands of a step are
     * a letter each: c client, k block, v value, b branch, n count or position.
     */
    private enum Kind {
        END("", "", false),
        WRONG("", "", false),
        SEMICOLON(";", "", false),
        NUMBER("", "", false),
        CLIENTS("clients", "", false),
        BLOCKS("blocks", "", false),
        WITNESS("witness", "", false),
        WRITES("writes", "ckv", false),
        READS("reads", "ck", false),
        FORK("fork", "c", true),
        MOVE("move", "cb", true),
        REWIND("rewind", "bn", true),
        CORRUPT("corrupt", "bnv", true),
        EXCHANGE("exchange", "cc", true),
        POST("post", "c", true),
        HEAL("heal", "bb", true);

        private static final Kind[] ALL = values();

        final String spelling;
        final String operands;
        final boolean opensStep;

        Kind(String spelling, String operands, boolean opensStep) {
            this.spelling = spelling;
            this.operands = operands;
            this.opensStep = opensStep;
        }
    }

    /** A step of a script; fork has its set of clients as the first number. */
    private static final class Step {
        final int[] numbers = new int[MAX_OPERANDS];
        Kind kind = Kind.END;
    }

    /** The input buffer and the tokens of its text. One that no grammar allows anywhere is of the kind WRONG. */
    private static final class Tokens {
        final byte[] text = new byte[MAX_TEXT];
        final Kind[] kinds = new Kind[MAX_TEXT + 1];
        final int[] starts = new int[MAX_TEXT + 1];
        final int[] numbers = new int[MAX_TEXT + 1];
        int count;

        void scan(int length) {
            int end = Math.max(0, Math.min(length, MAX_TEXT));
            int runEnd = -1;
            count = 0;
            for (int at = 0, next = 0; at < end; at = next) {
                next = Math.max(at + 1, endOfRun(at, end));
                if (isBlank(text[at])) {
                    continue;
                }
                boolean isRun = isLetter(text[at]) || isDigit(text[at]);
                addToken(isRun && at == runEnd ? Kind.WRONG : kindOf(at, next), at, next);
                runEnd = isRun ? next : -1;
            }
            addToken(Kind.END, end, end);
        }

        /** Where the letters, or else the digits, that begin here end; start itself if there are none. */
        int endOfRun(int start, int end) {
            int at = start;
            while (at < end && isLetter(text[at])) {
                at++;
            }
            if (at > start) {
                return at;
            }
            while (at < end && isDigit(text[at])) {
                at++;
            }
            return at;
        }

        Kind kindOf(int start, int end) {
            if (isDigit(text[start])) {
                return end - start > MAX_DIGITS ? Kind.WRONG : Kind.NUMBER;
            }
            for (Kind kind : Kind.ALL) {
                if (isSpelled(kind.spelling, start, end)) {
                    return kind;
                }
            }
            return Kind.WRONG;
        }

        boolean isSpelled(String word, int start, int end) {
            if (word.length() != end - start) {
                return false;
            }
            for (int at = start; at < end; at++) {
                if (text[at] != word.charAt(at - start)) {
                    return false;
                }
            }
            return true;
        }

        void addToken(Kind kind, int start, int end) {
            if (count > MAX_TEXT) {
                return;
            }
            kinds[count] = kind;
            starts[count] = start;
            numbers[count] = kind == Kind.NUMBER ? numberAt(start, end) : 0;
            count++;
        }

        int numberAt(int start, int end) {
            int number = 0;
            for (int at = start; at < end; at++) {
                number = number * 10 + (text[at] - '0');
            }
            return number;
        }

        static boolean isBlank(byte sign) {
            return sign == 32 || sign == 10;
        }

        static boolean isLetter(byte sign) {
            return sign >= 'a' && sign <= 'z';
        }

        static boolean isDigit(byte sign) {
            return sign >= '0' && sign <= '9';
        }
    }

    /**
     * Parses services and scripts from left to right and stops at the first error, which is the one to report: all
     * others stand further right, or at the same place with a greater code.
     */
    private static final class Parser {
        final Tokens tokens = new Tokens();
        final Step[] steps = new Step[MAX_STEPS];
        int current;
        int stepCount;
        int clientCount;
        int blockCount;
        int interval;
        int failCode;
        int failPosition = -1;

        Parser() {
            for (int at = 0; at < MAX_STEPS; at++) {
                steps[at] = new Step();
            }
        }

        void begin(int length) {
            failCode = 0;
            failPosition = -1;
            stepCount = 0;
            current = 0;
            tokens.scan(length);
        }

        boolean hasFailed() {
            return failCode != 0;
        }

        /** Keeps the first error only: the parser does not go on behind it, but its callers may still ask for more. */
        void fail(int code) {
            if (failCode == 0) {
                failCode = code;
                failPosition = tokens.starts[current];
            }
        }

        void parseService(int length) {
            begin(length);
            takeKind(Kind.CLIENTS);
            clientCount = takeNumber(2, MAX_CLIENTS);
            takeKind(Kind.BLOCKS);
            blockCount = takeNumber(1, MAX_BLOCKS);
            takeKind(Kind.WITNESS);
            interval = takeNumber(1, MAX_INTERVAL);
            takeKind(Kind.SEMICOLON);
            takeKind(Kind.END);
        }

        void parseScript(int length, int clients, int blocks) {
            begin(length);
            clientCount = clients;
            blockCount = blocks;
            for (int turn = 0; turn <= MAX_STEPS && !hasFailed() && kindHere() != Kind.END; turn++) {
                checkFirstToken();
                if (turn >= MAX_STEPS) {
                    fail(LIMIT);
                } else {
                    parseStep(steps[turn]);
                    stepCount = turn + 1;
                }
            }
        }

        void checkFirstToken() {
            if (kindHere() == Kind.NUMBER) {
                checkNumber(0, clientCount - 1);
            } else if (!kindHere().opensStep) {
                fail(SYNTAX);
            }
        }

        void parseStep(Step step) {
            if (kindHere() == Kind.NUMBER) {
                step.numbers[0] = takeNumber(0, clientCount - 1);
                step.kind = kindHere();
                takeKind(step.kind == Kind.READS ? Kind.READS : Kind.WRITES);
                takeOperands(step, 1);
            } else {
                step.kind = kindHere();
                takeToken();
                takeOperands(step, 0);
            }
            if (step.kind == Kind.FORK) {
                step.numbers[0] = takeRestOfSet(1 << step.numbers[0]);
            }
            takeKind(Kind.SEMICOLON);
        }

        void takeOperands(Step step, int first) {
            String operands = step.kind.operands;
            for (int at = first; at < operands.length() && at < MAX_OPERANDS; at++) {
                char sort = operands.charAt(at);
                step.numbers[at] = takeNumber(sort == 'n' ? 1 : 0, greatest(sort));
            }
        }

        int greatest(char sort) {
            switch (sort) {
                case 'c':
                    return clientCount - 1;
                case 'k':
                    return blockCount - 1;
                case 'v':
                    return MAX_VALUE;
                case 'b':
                    return MAX_BRANCHES - 1;
                default:
                    return MAX_ENTRIES;
            }
        }

        int takeRestOfSet(int set) {
            int all = set;
            for (int more = 0; more < MAX_TEXT && !hasFailed() && kindHere() == Kind.NUMBER; more++) {
                all |= 1 << takeNumber(0, clientCount - 1);
            }
            return all;
        }

        int takeNumber(int low, int high) {
            int number = tokens.numbers[current];
            checkNumber(low, high);
            takeToken();
            return number;
        }

        void checkNumber(int low, int high) {
            int number = tokens.numbers[current];
            if (kindHere() != Kind.NUMBER) {
                fail(SYNTAX);
            } else if (number < low || number > high) {
                fail(RANGE);
            }
        }

        void takeKind(Kind kind) {
            if (kindHere() != kind) {
                fail(SYNTAX);
            }
            takeToken();
        }

        /** The last token is the end of the text, and the parser never goes behind it. */
        void takeToken() {
            if (!hasFailed() && current < tokens.count - 1) {
                current++;
            }
        }

        Kind kindHere() {
            Kind kind = tokens.kinds[current];
            return kind == null ? Kind.WRONG : kind;
        }
    }
}
