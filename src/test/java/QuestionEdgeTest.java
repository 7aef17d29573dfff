import java.io.IOException;

/** The boundary cases of promises 19 to 41, sentence by sentence. */
public final class QuestionEdgeTest {
    private static final int[] NO_CLIENT = {-1, 3, 6, Edges.MIN, Edges.MAX};
    private static final int[] NO_BRANCH = {-1, 2, 7, 8, Edges.MIN, Edges.MAX};
    private static final String WRONG_WHAT = "Throws `IllegalArgumentException` if what is out of range";
    private static final String NO_SUCH_CLIENT = "Throws `NoSuchElementException` if there is no such client";
    private static final String NO_SUCH_BRANCH = "Throws `NoSuchElementException` if there is no such branch";

    public static void main(String[] args) throws IOException {
        Edges.open(args);
        Edges.edge("(all counts are 0 without a service)", QuestionEdgeTest::noService);
        Edges.edge(19, "Returns C.", QuestionEdgeTest::clients);
        Edges.edge(20, "Returns N.", QuestionEdgeTest::blocks);
        Edges.edge(21, "Returns the number of branches.", QuestionEdgeTest::branches);
        Edges.edge(22, "Returns the length of a branch.", QuestionEdgeTest::lengths);
        Edges.edge(22, NO_SUCH_BRANCH, QuestionEdgeTest::noSuchLength);
        Edges.edge(23, "5 its link (0 if it is not a merge)", QuestionEdgeTest::links);
        Edges.edge(23, "6 whether its hash is the one computed (1 or 0; case (3) of section 2)",
            QuestionEdgeTest::computedHashes);
        Edges.edge(23, "Throws `NoSuchElementException` if there is no such branch or entry",
            QuestionEdgeTest::noSuchEntry);
        Edges.edge(23, WRONG_WHAT, QuestionEdgeTest::wrongPartOfEntry);
        Edges.edge(24, "Returns the value of the block in the branch.", QuestionEdgeTest::values);
        Edges.edge(24, "Throws `NoSuchElementException` if there is no such branch or block",
            QuestionEdgeTest::noSuchValue);
        Edges.edge(25, NO_SUCH_CLIENT, QuestionEdgeTest::noSuchBranchOf);
        Edges.edge(26, "Returns the common length (section 4).", QuestionEdgeTest::commonLengths);
        Edges.edge(26, NO_SUCH_BRANCH, QuestionEdgeTest::noSuchCommonLength);
        Edges.edge(27, "Returns the set of the blocks in conflict (section 4).", QuestionEdgeTest::conflicts);
        Edges.edge(27, NO_SUCH_BRANCH, QuestionEdgeTest::noSuchConflicts);
        Edges.edge(28, "- `what`: 0 the position, 1 the hash, 2 the signature", QuestionEdgeTest::receipts);
        Edges.edge(28, NO_SUCH_CLIENT, QuestionEdgeTest::noSuchReceipt);
        Edges.edge(28, WRONG_WHAT, QuestionEdgeTest::wrongPartOfReceipt);
        Edges.edge(29, "- `client`: any int - `position`: any int - `hash`: any int - `signature`: any int",
            QuestionEdgeTest::signedAnyInt);
        Edges.edge(29, "whether client is a client", QuestionEdgeTest::signedByClient);
        Edges.edge(29, "the position is 0 to 200", QuestionEdgeTest::signedPosition);
        Edges.edge(29, "the hash 0 to 2147483646", QuestionEdgeTest::signedHash);
        Edges.edge(29, "and the signature the one of section 2 (whether such a receipt was ever given or not)",
            QuestionEdgeTest::signedAnyway);
        Edges.edge(30, "- `position`: 0 to the position of the client", QuestionEdgeTest::hashes);
        Edges.edge(30, "Throws `NoSuchElementException` if there is no such client or position",
            QuestionEdgeTest::noSuchHash);
        Edges.edge(31, "Returns the number for the other client in the version vector of the client.",
            QuestionEdgeTest::vectors);
        Edges.edge(31, NO_SUCH_CLIENT, QuestionEdgeTest::noSuchVector);
        Edges.edge(32, "Returns 0 if they are equal, 1 if no number of the first is greater and they are not equal, 2 "
            + "if no number of the second is greater and they are not equal, otherwise 3.", QuestionEdgeTest::orders);
        Edges.edge(32, NO_SUCH_CLIENT, QuestionEdgeTest::noSuchOrder);
        Edges.edge(33, NO_SUCH_CLIENT, QuestionEdgeTest::noSuchSuspicion);
        Edges.edge(34, "without doing it, as if it were not suspicious", QuestionEdgeTest::findings);
        Edges.edge(34, "Returns the case of section 2 that would apply, 1 to 4; 0 for none.",
            QuestionEdgeTest::foundCases);
        Edges.edge(34, NO_SUCH_CLIENT, QuestionEdgeTest::noSuchFinding);
        Edges.edge(35, "Returns the number of pairs of clients whose histories are forked.", QuestionEdgeTest::pairs);
        Edges.edge(36, "those (the client itself aside)", QuestionEdgeTest::notItself);
        Edges.edge(36, "whose number for this client in the version vector is not less than its own one",
            QuestionEdgeTest::notLess);
        Edges.edge(36, "and whose history is not forked from its history", QuestionEdgeTest::notForked);
        Edges.edge(36, NO_SUCH_CLIENT, QuestionEdgeTest::noSuchSeenBy);
        Edges.edge(37, "Returns the number of blame records that are kept.", QuestionEdgeTest::blames);
        Edges.edge(38, "Throws `NoSuchElementException` if there is no such record", QuestionEdgeTest::noSuchBlame);
        Edges.edge(38, WRONG_WHAT, QuestionEdgeTest::wrongPartOfBlame);
        Edges.edge(39, "Returns the number of posts on the board.", QuestionEdgeTest::posts);
        Edges.edge(40, "Throws `NoSuchElementException` if there is no such post", QuestionEdgeTest::noSuchPost);
        Edges.edge(40, WRONG_WHAT, QuestionEdgeTest::wrongPartOfPost);
        Edges.edge(41, "Returns 0 if the client has the same hash at its position, 1 if it has another one, 2 if its "
            + "own position is lower.", QuestionEdgeTest::checks);
        Edges.edge(41, "Throws `NoSuchElementException` if there is no such client or post",
            QuestionEdgeTest::noSuchCheck);
        Checks.finish();
    }

    /** Three clients, two blocks, two branches: 0 has a read, then 1 a write behind it in branch 1, 0 another read. */
    private static ForkWatch apart() {
        ForkWatch w = Checks.service(3, 2, 50);
        w.read(0, 0);
        w.fork(2);
        w.write(1, 1, 5);
        w.read(0, 0);
        return w;
    }

    private static void noService() {
        ForkWatch w = new ForkWatch();
        Checks.due("clients", w.clients(), 0);
        Checks.due("blocks", w.blocks(), 0);
        Checks.due("branches", w.branches(), 0);
        Checks.due("forked pairs", w.forkedPairs(), 0);
        Checks.due("blame records", w.blames(), 0);
        Checks.due("posts", w.posts(), 0);
        Checks.due("refused", w.refused(), 0);
        Checks.dueThrows("a wrong service", Checks.STATE, () -> Checks.load(w, "clients 6 blocks 16 witness 50?"));
        Checks.due("behind a wrong service", w.clients() + w.blocks() + w.branches(), 0);
    }

    private static void clients() {
        for (int clients = 2; clients <= 6; clients++) {
            Checks.due("clients", Checks.service(clients, 1, 50).clients(), clients);
        }
    }

    private static void blocks() {
        for (int blocks = 1; blocks <= 16; blocks++) {
            Checks.due("blocks", Checks.service(2, blocks, 50).blocks(), blocks);
        }
    }

    private static void branches() {
        ForkWatch w = Checks.service(3, 2, 50);
        Checks.due("one at first", w.branches(), 1);
        for (int count = 2; count <= 8; count++) {
            w.fork(1);
            Checks.due("branches", w.branches(), count);
        }
        Checks.dueThrows("no ninth", Checks.STATE, () -> w.fork(1));
        Checks.due("8", w.branches(), 8);
    }

    private static void lengths() {
        ForkWatch w = Checks.service(3, 2, 50);
        Checks.due("empty", w.length(0), 0);
        Checks.readOften(w, 0, 200);
        Checks.due("full", w.length(0), 200);
        w.rewind(0, 199);
        Checks.due("rewound", w.length(0), 1);
    }

    private static void noSuchLength() {
        ForkWatch w = apart();
        for (int branch : NO_BRANCH) {
            Checks.dueThrows("branch " + branch, Checks.NO_SUCH, () -> w.length(branch));
        }
        Checks.due("the last branch", w.length(1), 2);
    }

    private static void links() {
        ForkWatch w = apart();
        w.heal(0, 1);
        Checks.due("a read", w.entry(2, 1, 5), 0);
        Checks.due("a merge", w.entry(2, 3, 5), w.entry(1, 2, 4));
        Checks.due("a write", w.entry(2, 4, 5), 0);
        // A place where a merge stood can get another entry.
        w.rewind(2, 2);
        w.read(2, 0);
        Checks.due("a read in its place", w.entry(2, 3, 0) + w.entry(2, 3, 5), 0);
        Checks.due("is the one computed", w.entry(2, 3, 6), 1);
    }

    private static void computedHashes() {
        ForkWatch w = apart();
        w.write(1, 1, 6);
        w.heal(0, 1);
        for (int at = 1; at <= 5; at++) {
            Checks.due("right at " + at, w.entry(2, at, 6), 1);
        }
        w.corrupt(2, 4, 0);
        Checks.due("wrong", w.entry(2, 4, 6), 0);
        Checks.due("the one before it", w.entry(2, 3, 6), 1);
        Checks.due("the one behind it: its hash is computed from the hash that stands there", w.entry(2, 5, 6), 1);
        w.corrupt(2, 4, 5);
        Checks.due("right again", w.entry(2, 4, 6), 1);
        ForkWatch v = Checks.service(2, 1, 50);
        v.write(0, 0, 1);
        v.corrupt(0, 1, 2);
        Checks.due("the first entry", v.entry(0, 1, 6), 0);
        Checks.due("for the client that wrote it, too", v.wouldFind(0) * 10 + v.wouldFind(1), 3);
    }

    private static void noSuchEntry() {
        ForkWatch w = apart();
        for (int branch : NO_BRANCH) {
            Checks.dueThrows("branch " + branch, Checks.NO_SUCH, () -> w.entry(branch, 1, 0));
        }
        for (int position : new int[] {0, -1, 3, 200, 201, Edges.MIN, Edges.MAX}) {
            Checks.dueThrows("position " + position, Checks.NO_SUCH, () -> w.entry(1, position, 0));
        }
        w.rewind(1, 1);
        Checks.dueThrows("an entry that is gone", Checks.NO_SUCH, () -> w.entry(1, 2, 0));
    }

    private static void wrongPartOfEntry() {
        ForkWatch w = apart();
        for (int what : new int[] {-1, 7, 8, Edges.MIN, Edges.MAX}) {
            Checks.dueThrows("what " + what, Checks.ARGUMENT, () -> w.entry(1, 2, what));
        }
        Checks.due("what 0 and 6", w.entry(1, 2, 0) * 10 + w.entry(1, 2, 6), 11);
    }

    private static void values() {
        ForkWatch w = apart();
        Checks.due("written", w.value(1, 1), 5);
        Checks.due("not in this branch", w.value(0, 1), 0);
        Checks.due("only read", w.value(1, 0), 0);
        ForkWatch v = Checks.service(2, 16, 50);
        v.write(0, 15, 999999);
        Checks.due("the last block", v.value(0, 15), 999999);
    }

    private static void noSuchValue() {
        ForkWatch w = apart();
        for (int branch : NO_BRANCH) {
            Checks.dueThrows("branch " + branch, Checks.NO_SUCH, () -> w.value(branch, 0));
        }
        for (int block : new int[] {-1, 2, 16, Edges.MIN, Edges.MAX}) {
            Checks.dueThrows("block " + block, Checks.NO_SUCH, () -> w.value(0, block));
        }
    }

    private static void noSuchBranchOf() {
        ForkWatch w = apart();
        for (int client : NO_CLIENT) {
            Checks.dueThrows("client " + client, Checks.NO_SUCH, () -> w.branchOf(client));
        }
        Checks.due("the clients", w.branchOf(0) * 100 + w.branchOf(1) * 10 + w.branchOf(2), 10);
    }

    private static void commonLengths() {
        ForkWatch w = apart();
        Checks.due("forked", w.commonLength(0, 1) * 10 + w.commonLength(1, 0), 11);
        Checks.due("with itself", w.commonLength(1, 1), 2);
        w.rewind(0, 2);
        Checks.due("one empty", w.commonLength(0, 1) * 10 + w.commonLength(1, 0), 0);
        Checks.due("empty with itself", w.commonLength(0, 0), 0);
    }

    private static void noSuchCommonLength() {
        ForkWatch w = apart();
        for (int branch : NO_BRANCH) {
            Checks.dueThrows("x " + branch, Checks.NO_SUCH, () -> w.commonLength(branch, 0));
            Checks.dueThrows("y " + branch, Checks.NO_SUCH, () -> w.commonLength(0, branch));
            Checks.dueThrows("both " + branch, Checks.NO_SUCH, () -> w.commonLength(branch, branch));
        }
    }

    private static void conflicts() {
        ForkWatch w = apart();
        Checks.due("none", w.conflicts(0, 1), 0);
        Checks.due("with itself", w.conflicts(1, 1), 0);
        w.read(0, 1);
        Checks.due("bit 1", w.conflicts(0, 1) * 10 + w.conflicts(1, 0), 22);
        w.write(1, 0, 1);
        Checks.due("bits 0 and 1", w.conflicts(0, 1), 3);
    }

    private static void noSuchConflicts() {
        ForkWatch w = apart();
        for (int branch : NO_BRANCH) {
            Checks.dueThrows("x " + branch, Checks.NO_SUCH, () -> w.conflicts(branch, 0));
            Checks.dueThrows("y " + branch, Checks.NO_SUCH, () -> w.conflicts(0, branch));
            Checks.dueThrows("both " + branch, Checks.NO_SUCH, () -> w.conflicts(branch, branch));
        }
    }

    private static void receipts() {
        ForkWatch w = apart();
        Checks.due("position 0", w.receipt(2, 0), 0);
        Checks.due("hash 1", w.receipt(2, 1), 1);
        Checks.due("its signature", w.receipt(2, 2), 31 + 26 + 12345);
        Checks.due("a position", w.receipt(1, 0), 2);
        Checks.due("a hash", w.receipt(1, 1), w.entry(1, 2, 4));
        Checks.due("a signature", w.receipt(1, 2), Checks.signature(1, 2, w.entry(1, 2, 4)));
        w.exchange(0, 1);
        Checks.due("of a suspicious one", w.receipt(1, 2), Checks.signature(1, 2, w.entry(1, 2, 4)));
    }

    private static void noSuchReceipt() {
        ForkWatch w = apart();
        for (int client : NO_CLIENT) {
            Checks.dueThrows("client " + client, Checks.NO_SUCH, () -> w.receipt(client, 0));
        }
    }

    private static void wrongPartOfReceipt() {
        ForkWatch w = apart();
        for (int what : new int[] {-1, 3, 4, Edges.MIN, Edges.MAX}) {
            Checks.dueThrows("what " + what, Checks.ARGUMENT, () -> w.receipt(0, what));
        }
    }

    private static void dueSigned(ForkWatch w, int client, int position, int hash, boolean due) {
        int signature = (int) Checks.signature(client, position, hash);
        String words = "client " + client + " position " + position + " hash " + hash;
        Checks.due(words, w.isSigned(client, position, hash, signature), due);
        // What the formula would give in int, or by Java's remainder of a negative number.
        int inInt = hash * 31 + position * 17 + client * 13 + 12345;
        long inLong = hash * 31L + position * 17L + client * 13L + 12345L;
        if (!due) {
            Checks.due(words + " in int", w.isSigned(client, position, hash, inInt), false);
            Checks.due(words + " by remainder", w.isSigned(client, position, hash, (int) (inLong % 2147483647L)), false);
        }
    }

    private static void signedAnyInt() {
        int[] any = {Edges.MIN, -1, 0, 1, 200, 201, Edges.MAX};
        for (int client : any) {
            for (int position : any) {
                ForkWatch w = apart();
                for (int hash : any) {
                    for (int signature : any) {
                        Checks.due("not signed", w.isSigned(client, position, hash, signature), false);
                    }
                }
            }
        }
    }

    private static void signedByClient() {
        ForkWatch w = apart();
        for (int client : NO_CLIENT) {
            dueSigned(w, client, 1, 7, false);
        }
        for (int client = 0; client < 3; client++) {
            dueSigned(w, client, 1, 7, true);
        }
        dueSigned(new ForkWatch(), 0, 0, 1, false);
    }

    private static void signedPosition() {
        ForkWatch w = apart();
        for (int position : new int[] {-1, 201, Edges.MIN, Edges.MAX}) {
            dueSigned(w, 1, position, 7, false);
        }
        for (int position : new int[] {0, 1, 199, 200}) {
            dueSigned(w, 1, position, 7, true);
        }
    }

    private static void signedHash() {
        ForkWatch w = apart();
        for (int hash : new int[] {-1, 2147483647, Edges.MIN}) {
            dueSigned(w, 1, 1, hash, false);
        }
        for (int hash : new int[] {0, 1, 2147483645, 2147483646}) {
            dueSigned(w, 1, 1, hash, true);
        }
    }

    private static void signedAnyway() {
        ForkWatch w = apart();
        Checks.due("given", w.isSigned(1, 2, w.receipt(1, 1), w.receipt(1, 2)), true);
        Checks.due("of another client", w.isSigned(0, 2, w.receipt(1, 1), w.receipt(1, 2)), false);
        Checks.due("of another position", w.isSigned(1, 1, w.receipt(1, 1), w.receipt(1, 2)), false);
        Checks.due("of another hash", w.isSigned(1, 2, w.receipt(1, 1) - 1, w.receipt(1, 2)), false);
        dueSigned(w, 2, 200, 2147483646, true);
        int right = (int) Checks.signature(2, 200, 99);
        for (int signature : new int[] {right - 1, right + 1, -right, 0, -1, Edges.MIN, Edges.MAX}) {
            Checks.due("signature " + signature, w.isSigned(2, 200, 99, signature), false);
        }
    }

    private static void hashes() {
        ForkWatch w = apart();
        Checks.due("at 0", w.hashAt(2, 0), 1);
        Checks.due("at 0 of a longer history", w.hashAt(1, 0), 1);
        Checks.due("amid it", w.hashAt(1, 1), w.entry(1, 1, 4));
        Checks.due("at its position", w.hashAt(1, 2), w.entry(1, 2, 4));
        Checks.dueThrows("one behind it", Checks.NO_SUCH, () -> w.hashAt(1, 3));
        Checks.dueThrows("one behind 0", Checks.NO_SUCH, () -> w.hashAt(2, 1));
        w.rewind(1, 2);
        Checks.due("whatever the branch has", w.hashAt(1, 2), w.receipt(1, 1));
    }

    private static void noSuchHash() {
        ForkWatch w = apart();
        for (int client : NO_CLIENT) {
            Checks.dueThrows("client " + client, Checks.NO_SUCH, () -> w.hashAt(client, 0));
        }
        for (int position : new int[] {-1, 3, 200, 201, Edges.MIN, Edges.MAX}) {
            Checks.dueThrows("position " + position, Checks.NO_SUCH, () -> w.hashAt(1, position));
        }
    }

    private static void vectors() {
        ForkWatch w = apart();
        Checks.due("of itself", w.vector(0, 0), 2);
        Checks.due("of another one", w.vector(1, 0), 1);
        Checks.due("none", w.vector(0, 1), 0);
        Checks.due("without a history", w.vector(2, 0) + w.vector(2, 1) + w.vector(2, 2), 0);
        w.move(0, 1);
        w.adopt(0);
        Checks.due("less than before", w.vector(0, 0) * 10 + w.vector(0, 1), 11);
    }

    private static void noSuchVector() {
        ForkWatch w = apart();
        for (int client : NO_CLIENT) {
            Checks.dueThrows("client " + client, Checks.NO_SUCH, () -> w.vector(client, 0));
            Checks.dueThrows("other " + client, Checks.NO_SUCH, () -> w.vector(0, client));
        }
    }

    private static void orders() {
        ForkWatch w = Checks.service(6, 1, 50);
        Checks.due("both without entries", w.order(0, 5), 0);
        w.read(5, 0);
        Checks.due("the second has one", w.order(0, 5), 1);
        Checks.due("the first has one", w.order(5, 0), 2);
        Checks.due("with itself", w.order(5, 5), 0);
        w.adopt(0);
        Checks.due("both have it", w.order(0, 5), 0);
        w.fork(1);
        w.read(0, 0);
        Checks.due("one more of its own", w.order(0, 5), 2);
        w.read(5, 0);
        Checks.due("each has one more", w.order(0, 5) * 10 + w.order(5, 0), 33);
        // Equal vectors of histories that are forked.
        ForkWatch v = Checks.service(2, 2, 50);
        v.read(0, 0);
        v.rewind(0, 1);
        v.move(1, 0);
        v.fork(2);
        v.adopt(1);
        v.adopt(0);
        v.write(0, 0, 1);
        v.move(0, 1);
        v.adopt(0);
        v.write(0, 1, 1);
        v.move(1, 0);
        v.adopt(1);
        Checks.due("forked", v.forkedPairs(), 1);
        Checks.due("but equal", v.order(0, 1), 0);
    }

    private static void noSuchOrder() {
        ForkWatch w = apart();
        for (int client : NO_CLIENT) {
            Checks.dueThrows("client " + client, Checks.NO_SUCH, () -> w.order(client, 0));
            Checks.dueThrows("other " + client, Checks.NO_SUCH, () -> w.order(0, client));
            Checks.dueThrows("both " + client, Checks.NO_SUCH, () -> w.order(client, client));
        }
    }

    private static void noSuchSuspicion() {
        ForkWatch w = apart();
        for (int client : NO_CLIENT) {
            Checks.dueThrows("client " + client, Checks.NO_SUCH, () -> w.isSuspicious(client));
        }
        w.exchange(0, 1);
        Checks.due("0 and 1", w.isSuspicious(0) && w.isSuspicious(1), true);
        Checks.due("not 2", w.isSuspicious(2), false);
    }

    private static void findings() {
        ForkWatch w = apart();
        w.move(0, 1);
        String before = Snapshot.of(w);
        Checks.due("a fork", w.wouldFind(0), 2);
        Checks.due("nothing is done", Snapshot.of(w), before);
        w.exchange(0, 1);
        Checks.due("a suspicious one", w.wouldFind(0), 2);
        w.move(0, 0);
        Checks.due("a suspicious one that would find nothing", w.wouldFind(0), 0);
        Checks.due("it stays suspicious", w.isSuspicious(0), true);
    }

    private static void foundCases() {
        ForkWatch w = apart();
        Checks.due("none", w.wouldFind(0) + w.wouldFind(1) + w.wouldFind(2), 0);
        w.rewind(0, 1);
        Checks.due("rollback", w.wouldFind(0), 1);
        w.move(0, 1);
        Checks.due("fork", w.wouldFind(0), 2);
        w.corrupt(1, 2, 4);
        w.move(2, 1);
        Checks.due("tampering", w.wouldFind(2), 3);
        w.corrupt(1, 2, 5);
        w.post(0);
        Checks.due("a post", w.wouldFind(2), 4);
        ForkWatch v = Checks.service(2, 1, 50);
        Checks.readOften(v, 0, 200);
        Checks.due("a full branch is none of them", v.wouldFind(0) + v.wouldFind(1), 0);
    }

    private static void noSuchFinding() {
        ForkWatch w = apart();
        for (int client : NO_CLIENT) {
            Checks.dueThrows("client " + client, Checks.NO_SUCH, () -> w.wouldFind(client));
        }
    }

    private static void pairs() {
        ForkWatch w = Checks.service(6, 1, 50);
        Checks.due("all at 0", w.forkedPairs(), 0);
        for (int client = 1; client < 6; client++) {
            w.fork(1 << client);
        }
        int due = 0;
        for (int client = 0; client < 6; client++) {
            w.read(client, 0);
            due += client;
            Checks.due("pairs with " + (client + 1), w.forkedPairs(), due);
        }
        w.move(0, 5);
        w.adopt(0);
        Checks.due("0 with 5", w.forkedPairs(), 14);
        w.rewind(5, 1);
        w.adopt(0);
        Checks.due("0 at 0 again", w.forkedPairs(), 10);
    }

    private static void notItself() {
        for (int clients = 2; clients <= 6; clients++) {
            ForkWatch w = Checks.service(clients, 1, 50);
            int all = (1 << clients) - 1;
            for (int client = 0; client < clients; client++) {
                Checks.due("of " + client, w.seenBy(client), all & ~(1 << client));
            }
        }
    }

    private static void notLess() {
        ForkWatch w = Checks.service(4, 1, 50);
        w.read(1, 0);
        Checks.due("less", w.seenBy(1), 0);
        w.read(2, 0);
        Checks.due("equal", w.seenBy(1), 0b100);
        w.read(1, 0);
        Checks.due("one less", w.seenBy(1), 0);
        w.read(3, 0);
        Checks.due("equal again", w.seenBy(1), 0b1000);
        // 3 has more entries of 1 than 1 itself has now.
        w.fork(0b10);
        w.rewind(1, 2);
        w.adopt(1);
        Checks.due("its own number and that of 3", w.vector(1, 1) * 10 + w.vector(3, 1), 12);
        Checks.due("greater or equal", w.seenBy(1), 0b1100);
        Checks.due("0 entries of 0: all", w.seenBy(0), 0b1110);
    }

    private static void notForked() {
        ForkWatch w = Checks.service(3, 1, 50);
        w.read(0, 0);
        w.read(1, 0);
        Checks.due("1 has it", w.seenBy(0), 0b10);
        w.fork(0b10);
        w.read(1, 0);
        w.adopt(0);
        Checks.due("1 has it still", w.seenBy(0), 0b10);
        w.rewind(0, 1);
        w.read(2, 0);
        w.adopt(0);
        Checks.due("1 is forked, 2 is not", w.seenBy(0), 0b100);
        Checks.due("though its number is not less", w.vector(1, 0), w.vector(0, 0));
    }

    private static void noSuchSeenBy() {
        ForkWatch w = apart();
        for (int client : NO_CLIENT) {
            Checks.dueThrows("client " + client, Checks.NO_SUCH, () -> w.seenBy(client));
        }
    }

    private static void blames() {
        ForkWatch w = apart();
        Checks.due("none", w.blames(), 0);
        Checks.run(w, "exchange 0 1;".repeat(59));
        Checks.due("59", w.blames(), 59);
        w.exchange(0, 1);
        Checks.due("60", w.blames(), 60);
        w.exchange(0, 1);
        Checks.due("60 are kept", w.blames(), 60);
    }

    private static void noSuchBlame() {
        ForkWatch w = apart();
        Checks.dueThrows("0 of none", Checks.NO_SUCH, () -> w.blame(0, 0));
        w.exchange(0, 1);
        Checks.due("0 of one", w.blame(0, 0), 2);
        for (int index : new int[] {-1, 1, 59, 60, Edges.MIN, Edges.MAX, Edges.MIN / 6, Edges.MAX / 6 + 1}) {
            Checks.dueThrows("index " + index, Checks.NO_SUCH, () -> w.blame(index, 0));
        }
        Checks.run(w, "exchange 0 1;".repeat(60));
        Checks.due("the last of 60", w.blame(59, 0), 2);
        Checks.dueThrows("60 of 60", Checks.NO_SUCH, () -> w.blame(60, 0));
    }

    private static void wrongPartOfBlame() {
        ForkWatch w = apart();
        w.exchange(0, 1);
        w.exchange(0, 1);
        for (int what : new int[] {-1, 6, 7, Edges.MIN, Edges.MAX}) {
            Checks.dueThrows("what " + what, Checks.ARGUMENT, () -> w.blame(0, what));
        }
        Checks.due("what 0 and 5", w.blame(1, 0) == 2 && w.blame(1, 5) == w.receipt(1, 1), true);
    }

    private static void posts() {
        ForkWatch w = apart();
        Checks.due("none", w.posts(), 0);
        Checks.run(w, "post 0;".repeat(39));
        Checks.due("39", w.posts(), 39);
        w.post(1);
        Checks.due("40", w.posts(), 40);
        w.post(1);
        Checks.due("40 are kept", w.posts(), 40);
    }

    private static void noSuchPost() {
        ForkWatch w = apart();
        Checks.dueThrows("0 of none", Checks.NO_SUCH, () -> w.boardPost(0, 0));
        w.post(2);
        Checks.due("0 of one", w.boardPost(0, 0), 2);
        for (int index : new int[] {-1, 1, 39, 40, Edges.MIN, Edges.MAX, Edges.MIN / 4, Edges.MAX / 4 + 1}) {
            Checks.dueThrows("index " + index, Checks.NO_SUCH, () -> w.boardPost(index, 0));
        }
        Checks.run(w, "post 1;".repeat(45));
        Checks.due("the last of 40", w.boardPost(39, 0), 1);
        Checks.dueThrows("40 of 40", Checks.NO_SUCH, () -> w.boardPost(40, 0));
    }

    private static void wrongPartOfPost() {
        ForkWatch w = apart();
        w.post(0);
        w.post(0);
        for (int what : new int[] {-1, 4, 5, Edges.MIN, Edges.MAX}) {
            Checks.dueThrows("what " + what, Checks.ARGUMENT, () -> w.boardPost(0, what));
        }
        Checks.due("what 0", w.boardPost(1, 0), 0);
        Checks.due("what 3", w.boardPost(1, 3), Checks.seal(w.boardPost(0, 3), 0, 2, w.receipt(0, 1)));
    }

    private static void checks() {
        ForkWatch w = apart();
        w.post(2);
        w.post(0);
        Checks.due("a post of position 0: all have it", w.checkPost(0, 0) + w.checkPost(1, 0) + w.checkPost(2, 0), 0);
        Checks.due("its own", w.checkPost(0, 1), 0);
        Checks.due("another one at the same position", w.checkPost(1, 1), 1);
        Checks.due("a lower position", w.checkPost(2, 1), 2);
        w.move(2, 0);
        w.read(2, 0);
        Checks.due("the same below its position", w.checkPost(2, 1), 0);
        w.post(2);
        Checks.due("one less than the position of the post", w.checkPost(0, 2), 2);
        w.adopt(0);
        Checks.due("equal to it", w.checkPost(0, 2), 0);
        ForkWatch u = apart();
        u.read(1, 0);
        u.post(0);
        Checks.due("another one below its position", u.checkPost(1, 0), 1);
        ForkWatch v = Checks.service(2, 1, 50);
        Checks.readOften(v, 0, 200);
        Checks.due("at 200", v.checkPost(0, 3) * 10 + v.checkPost(1, 3), 2);
    }

    private static void noSuchCheck() {
        ForkWatch w = apart();
        Checks.dueThrows("0 of none", Checks.NO_SUCH, () -> w.checkPost(0, 0));
        w.post(2);
        for (int client : NO_CLIENT) {
            Checks.dueThrows("client " + client, Checks.NO_SUCH, () -> w.checkPost(client, 0));
        }
        for (int index : new int[] {-1, 1, 39, 40, Edges.MIN, Edges.MAX, Edges.MIN / 4, Edges.MAX / 4 + 1}) {
            Checks.dueThrows("index " + index, Checks.NO_SUCH, () -> w.checkPost(0, index));
        }
    }
}
