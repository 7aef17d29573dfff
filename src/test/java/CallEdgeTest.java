import java.io.IOException;

/** The boundary cases of promises 8 to 18, sentence by sentence. */
public final class CallEdgeTest {
    private static final int[] NO_CLIENT = {-1, 3, 6, Edges.MIN, Edges.MAX};
    private static final int[] NO_BLOCK = {-1, 2, 16, 31, 32, Edges.MIN, Edges.MAX};
    private static final int[] NO_BRANCH = {-1, 2, 7, 8, Edges.MIN, Edges.MAX};
    private static final int[] NO_VALUE = {-1, 1000000, Edges.MIN, Edges.MAX};

    public static void main(String[] args) throws IOException {
        Edges.open(args);
        Edges.edge(8, "- `value`: 0 to 999999", CallEdgeTest::writtenValues);
        Edges.edge(8, "Returns the position of the entry.", CallEdgeTest::answerOfWrite);
        Edges.edge(8, "Throws `NoSuchElementException` if there is no such client or block", CallEdgeTest::noSuchWrite);
        Edges.edge(8, "Throws `IllegalArgumentException` if value is out of range", CallEdgeTest::wrongValues);
        Edges.edge(8, "Throws `IllegalStateException` if the client is suspicious", () -> bySuspicious(true));
        Edges.edge(8, "or if it becomes suspicious by this operation (the blame record stays then)",
            () -> becomesSuspicious(true));
        Edges.edge(8, "or if the branch already has 200 entries (this is checked last)", () -> inFullBranch(true));
        Edges.edge(9, "Returns the value of the block in the branch.", CallEdgeTest::answerOfRead);
        Edges.edge(9, "Throws `NoSuchElementException` if there is no such client or block", CallEdgeTest::noSuchRead);
        Edges.edge(9, "Throws `IllegalStateException` as for write()", CallEdgeTest::refusedReads);
        Edges.edge(10, "If these are forked, the first client writes a blame record (a fork, with the second one as "
            + "the other client, the least position at which the hashes of both are different, the hash of the first "
            + "client there, that of the second one there), and both become suspicious.", CallEdgeTest::forkedExchange);
        Edges.edge(10, "Returns 0 if both have the same position and are not forked, 1 if the first one has the lower "
            + "position and they are not forked, 2 if the second one has, 3 if they are forked.",
            CallEdgeTest::answerOfExchange);
        Edges.edge(10, "Throws `NoSuchElementException` if there is no such client, or both are the same",
            CallEdgeTest::noSuchExchange);
        Edges.edge(11, "A client posts its receipt on the witness board (also if it is suspicious).",
            CallEdgeTest::suspiciousPost);
        Edges.edge(11, "Returns the number of posts on the board then.", CallEdgeTest::answerOfPost);
        Edges.edge(11, "Throws `NoSuchElementException` if there is no such client", CallEdgeTest::noSuchPost);
        Edges.edge(12, "A client is not suspicious any more. Its history stays.", CallEdgeTest::calmed);
        Edges.edge(12, "Returns whether it was suspicious.", CallEdgeTest::answerOfCalm);
        Edges.edge(12, "Throws `NoSuchElementException` if there is no such client", CallEdgeTest::noSuchCalm);
        Edges.edge(13, "A client forgets its history and takes that of the branch that it sees, without verifying it.",
            CallEdgeTest::adopted);
        Edges.edge(13, "It is not suspicious any more.", CallEdgeTest::calmByAdopt);
        Edges.edge(13, "Returns its new position.", CallEdgeTest::answerOfAdopt);
        Edges.edge(13, "Throws `NoSuchElementException` if there is no such client", CallEdgeTest::noSuchAdopt);
        Edges.edge(14, "Makes a new branch with all entries of the branch that some clients see; these clients see the "
            + "new branch then.", CallEdgeTest::forked);
        Edges.edge(14, "Returns the number of the new branch.", CallEdgeTest::answerOfFork);
        Edges.edge(14, "Throws `IllegalArgumentException` if the set is empty or has a client that does not exist",
            CallEdgeTest::wrongSets);
        Edges.edge(14, "Throws `IllegalStateException` if they do not all see the same branch, or there are 8 branches",
            CallEdgeTest::refusedForks);
        Edges.edge(15, "Lets a client see another branch.", CallEdgeTest::moved);
        Edges.edge(15, "Returns the branch that it saw before.", CallEdgeTest::answerOfMove);
        Edges.edge(15, "Throws `NoSuchElementException` if there is no such client or branch",
            CallEdgeTest::noSuchMove);
        Edges.edge(16, "- `count`: how many, 1 to the length of the branch", CallEdgeTest::counts);
        Edges.edge(16, "Removes the last entries of a branch.", CallEdgeTest::rewound);
        Edges.edge(16, "Returns the length of the branch then.", CallEdgeTest::answerOfRewind);
        Edges.edge(16, "Throws `NoSuchElementException` if there is no such branch", CallEdgeTest::noSuchRewind);
        Edges.edge(16, "Throws `IllegalArgumentException` if count is out of range", CallEdgeTest::wrongCounts);
        Edges.edge(17, "Changes the value of a write in a branch. All hashes stay.", CallEdgeTest::corrupted);
        Edges.edge(17, "- `value`: 0 to 999999", CallEdgeTest::corruptValues);
        Edges.edge(17, "Returns the previous value.", CallEdgeTest::answerOfCorrupt);
        Edges.edge(17, "Throws `NoSuchElementException` if there is no such branch or entry",
            CallEdgeTest::noSuchCorrupt);
        Edges.edge(17, "Throws `IllegalArgumentException` if value is out of range", CallEdgeTest::wrongCorrupt);
        Edges.edge(17, "Throws `IllegalStateException` if the entry is not a write", CallEdgeTest::notAWrite);
        Edges.edge(18, "- `y`: a different branch, which is healed into x", CallEdgeTest::healed);
        Edges.edge(18, "Returns the number of the new branch.", CallEdgeTest::answerOfHeal);
        Edges.edge(18, "Throws `NoSuchElementException` if there is no such branch, or both are the same",
            CallEdgeTest::noSuchHeal);
        Edges.edge(18, "Throws `IllegalStateException` if a block is in conflict", CallEdgeTest::conflictingHeal);
        Edges.edge(18, "there are 8 branches", CallEdgeTest::ninthBranch);
        Edges.edge(18, "or the new branch would have more than 200 entries", CallEdgeTest::longHeal);
        Checks.finish();
    }

    /** Three clients, two blocks, two branches: 1 sees branch 1, which has a write behind the common read. */
    private static ForkWatch twoBranches() {
        ForkWatch w = Checks.service(3, 2, 50);
        w.read(0, 0);
        w.fork(2);
        w.write(1, 1, 5);
        return w;
    }

    private static void writtenValues() {
        ForkWatch w = Checks.service(3, 2, 50);
        for (int value : new int[] {0, 1, 999998, 999999}) {
            w.write(0, 1, value);
            Checks.due("value", w.entry(0, w.length(0), 3), value);
            Checks.due("value of the block", w.value(0, 1), value);
        }
    }

    private static void answerOfWrite() {
        ForkWatch w = Checks.service(3, 2, 50);
        Checks.due("the first", w.write(0, 0, 7), 1);
        Checks.due("the second", w.write(1, 0, 7), 2);
        w.fork(4);
        w.rewind(1, 2);
        Checks.due("the first of another branch", w.write(2, 0, 7), 1);
        Checks.readOften(w, 0, 197);
        Checks.due("the last", w.write(0, 0, 7), 200);
    }

    private static void noSuchWrite() {
        ForkWatch w = Checks.service(3, 2, 50);
        for (int client : NO_CLIENT) {
            Checks.dueThrows("client " + client, Checks.NO_SUCH, () -> w.write(client, 0, 0));
        }
        for (int block : NO_BLOCK) {
            Checks.dueThrows("block " + block, Checks.NO_SUCH, () -> w.write(0, block, 0));
        }
        Checks.dueThrows("neither", Checks.NO_SUCH, () -> w.write(3, 2, 0));
        Checks.due("the last ones", w.write(2, 1, 0), 1);
    }

    private static void wrongValues() {
        ForkWatch w = Checks.service(3, 2, 50);
        for (int value : NO_VALUE) {
            Checks.dueThrows("value " + value, Checks.ARGUMENT, () -> w.write(0, 0, value));
        }
        Checks.due("nothing written", w.length(0), 0);
    }

    private static void operate(ForkWatch w, int client, boolean writes) {
        if (writes) {
            w.write(client, 0, 3);
        } else {
            w.read(client, 0);
        }
    }

    private static void bySuspicious(boolean writes) {
        ForkWatch w = twoBranches();
        w.read(0, 0);
        w.exchange(0, 1);
        Checks.due("nothing to find", w.wouldFind(0), 0);
        Checks.dueThrows("suspicious", Checks.STATE, () -> operate(w, 0, writes));
        Checks.due("no record by that", w.blames(), 1);
        w.calm(0);
        operate(w, 0, writes);
        Checks.due("calm", w.length(0), 3);
    }

    private static void becomesSuspicious(boolean writes) {
        ForkWatch w = twoBranches();
        w.move(1, 0);
        Checks.dueThrows("rollback", Checks.STATE, () -> operate(w, 1, writes));
        Checks.due("the record", w.blames() * 10 + w.blame(0, 0), 11);
        Checks.due("suspicious", w.isSuspicious(1), true);
        w.read(0, 1);
        w.move(0, 1);
        Checks.dueThrows("fork", Checks.STATE, () -> operate(w, 0, writes));
        Checks.due("the record", w.blames() * 10 + w.blame(1, 0), 22);
        Checks.due("suspicious", w.isSuspicious(0), true);
        w.corrupt(1, 2, 6);
        w.move(2, 1);
        Checks.dueThrows("tampering", Checks.STATE, () -> operate(w, 2, writes));
        Checks.due("the record", w.blames() * 10 + w.blame(2, 0), 33);
        Checks.due("suspicious", w.isSuspicious(2), true);
        w.calm(2);
        w.corrupt(1, 2, 5);
        w.post(0);
        Checks.dueThrows("a post", Checks.STATE, () -> operate(w, 2, writes));
        Checks.due("the record", w.blames() * 10 + w.blame(3, 2), 40);
        Checks.due("suspicious", w.isSuspicious(2), true);
        Checks.due("no entry by any of them", w.length(0) * 10 + w.length(1), 22);
    }

    private static void inFullBranch(boolean writes) {
        ForkWatch w = Checks.service(3, 2, 50);
        w.write(1, 1, 5);
        Checks.readOften(w, 0, 198);
        operate(w, 2, writes);
        Checks.due("199 entries before it are not too many", w.length(0), 200);
        Checks.dueThrows("200 are", Checks.STATE, () -> operate(w, 2, writes));
        Checks.dueThrows("for all clients", Checks.STATE, () -> operate(w, 0, writes));
        Checks.due("nobody is suspicious", w.isSuspicious(2) || w.isSuspicious(0), false);
        Checks.due("no record", w.blames(), 0);
        w.rewind(0, 1);
        w.read(1, 0);
        Checks.due("full again", w.length(0), 200);
        Checks.dueThrows("a fork is found before", Checks.STATE, () -> operate(w, 2, writes));
        Checks.due("its record", w.blames() * 10 + w.blame(0, 0), 12);
        Checks.dueThrows("a suspicious one in a full branch", Checks.STATE, () -> operate(w, 2, writes));
        Checks.due("no record more", w.blames(), 1);
    }

    private static void answerOfRead() {
        ForkWatch w = Checks.service(3, 2, 50);
        Checks.due("without a write", w.read(0, 0), 0);
        w.write(1, 1, 999999);
        Checks.due("another block", w.read(0, 0), 0);
        Checks.due("the last write", w.read(0, 1), 999999);
        w.write(0, 1, 0);
        Checks.due("a write of 0", w.read(2, 1), 0);
        w.corrupt(0, 5, 4);
        Checks.due("a corrupted write that it has verified", w.read(2, 1), 4);
        w.fork(1);
        w.adopt(1);
        w.write(1, 1, 8);
        w.adopt(0);
        Checks.due("the branch that it sees", w.read(0, 1), 4);
    }

    private static void noSuchRead() {
        ForkWatch w = Checks.service(3, 2, 50);
        for (int client : NO_CLIENT) {
            Checks.dueThrows("client " + client, Checks.NO_SUCH, () -> w.read(client, 0));
        }
        for (int block : NO_BLOCK) {
            Checks.dueThrows("block " + block, Checks.NO_SUCH, () -> w.read(0, block));
        }
        Checks.due("the last ones", w.read(2, 1), 0);
    }

    private static void refusedReads() {
        bySuspicious(false);
        becomesSuspicious(false);
        inFullBranch(false);
    }

    private static void forkedExchange() {
        ForkWatch w = twoBranches();
        w.write(1, 1, 6);
        w.read(0, 0);
        Checks.due("forked", w.exchange(1, 0), 3);
        int[] parts = {2, 1, 0, 2, w.entry(1, 2, 4), w.entry(0, 2, 4)};
        for (int what = 0; what <= 5; what++) {
            Checks.due("part " + what, w.blame(0, what), parts[what]);
        }
        Checks.due("one record", w.blames(), 1);
        Checks.due("the first one is suspicious", w.isSuspicious(1), true);
        Checks.due("the second one is suspicious", w.isSuspicious(0), true);
        Checks.due("nobody else is", w.isSuspicious(2), false);
        Checks.due("their histories stay", w.receipt(0, 0) * 10 + w.receipt(1, 0), 23);
        Checks.due("suspicious ones can exchange", w.exchange(0, 1), 3);
        Checks.due("a record more", w.blames(), 2);
        Checks.due("of the first one", w.blame(1, 1) * 10 + w.blame(1, 2), 1);
        ForkWatch v = twoBranches();
        v.exchange(0, 1);
        Checks.due("not forked: no record", v.blames(), 0);
        Checks.due("not forked: no suspicion", v.isSuspicious(0) || v.isSuspicious(1), false);
    }

    private static void answerOfExchange() {
        ForkWatch w = Checks.service(3, 2, 50);
        Checks.due("both at 0", w.exchange(0, 1), 0);
        w.read(0, 0);
        Checks.due("the second at 0", w.exchange(0, 1), 2);
        Checks.due("the first at 0", w.exchange(1, 0), 1);
        w.adopt(1);
        Checks.due("both at 1", w.exchange(0, 1), 0);
        w.read(1, 0);
        Checks.due("the first one less", w.exchange(0, 1), 1);
        Checks.due("the second one less", w.exchange(1, 0), 2);
        w.fork(1);
        w.read(0, 0);
        w.read(2, 0);
        Checks.due("forked, same position", w.exchange(0, 2), 3);
        w.read(1, 1);
        Checks.due("forked, the first one lower", w.exchange(0, 1), 3);
        Checks.due("forked, the second one lower", w.exchange(1, 0), 3);
        Checks.due("a suspicious one that is not forked", w.exchange(2, 1), 1);
    }

    private static void noSuchExchange() {
        ForkWatch w = Checks.service(3, 2, 50);
        for (int client : NO_CLIENT) {
            Checks.dueThrows("client " + client, Checks.NO_SUCH, () -> w.exchange(client, 0));
            Checks.dueThrows("other " + client, Checks.NO_SUCH, () -> w.exchange(0, client));
            Checks.dueThrows("both " + client, Checks.NO_SUCH, () -> w.exchange(client, client));
        }
        for (int client = 0; client < 3; client++) {
            int same = client;
            Checks.dueThrows("the same " + client, Checks.NO_SUCH, () -> w.exchange(same, same));
        }
    }

    private static void suspiciousPost() {
        ForkWatch w = twoBranches();
        w.read(0, 0);
        w.exchange(0, 1);
        Checks.due("a suspicious one", w.post(1), 1);
        Checks.due("its receipt", w.boardPost(0, 1) == 2 && w.boardPost(0, 2) == w.receipt(1, 1), true);
        Checks.due("still suspicious", w.isSuspicious(1), true);
        Checks.due("one at 0", w.post(2), 2);
        Checks.due("its receipt", w.boardPost(1, 1) * 10 + w.boardPost(1, 2), 1);
        Checks.due("no operation", w.length(0) * 10 + w.length(1), 22);
    }

    private static void answerOfPost() {
        ForkWatch w = Checks.service(3, 2, 50);
        for (int times = 1; times <= 42; times++) {
            Checks.due("post " + times, w.post(times % 3), Math.min(times, 40));
        }
    }

    private static void noSuchPost() {
        ForkWatch w = Checks.service(3, 2, 50);
        for (int client : NO_CLIENT) {
            Checks.dueThrows("client " + client, Checks.NO_SUCH, () -> w.post(client));
        }
        Checks.due("none", w.posts(), 0);
        Checks.due("the last client", w.post(2), 1);
    }

    private static void calmed() {
        ForkWatch w = twoBranches();
        w.read(0, 0);
        w.exchange(0, 1);
        String before = Snapshot.of(w);
        w.calm(1);
        Checks.due("not suspicious", w.isSuspicious(1), false);
        int at = before.indexOf("client 1");
        String due = before.substring(0, at) + before.substring(at).replaceFirst("suspicious", "calm");
        Checks.due("all else stays", Snapshot.of(w), due);
    }

    private static void answerOfCalm() {
        ForkWatch w = twoBranches();
        Checks.due("not suspicious", w.calm(0), false);
        w.read(0, 0);
        w.exchange(0, 1);
        Checks.due("suspicious", w.calm(0), true);
        Checks.due("not any more", w.calm(0), false);
        Checks.due("the other one", w.calm(1), true);
    }

    private static void noSuchCalm() {
        ForkWatch w = Checks.service(3, 2, 50);
        for (int client : NO_CLIENT) {
            Checks.dueThrows("client " + client, Checks.NO_SUCH, () -> w.calm(client));
        }
    }

    private static void adopted() {
        ForkWatch w = twoBranches();
        w.corrupt(1, 2, 9);
        w.move(2, 1);
        Checks.due("tampered with", w.wouldFind(2), 3);
        Checks.due("a longer one", w.adopt(2), 2);
        Checks.due("not verified", w.blames(), 0);
        Checks.due("hashes", w.hashAt(2, 1) == w.entry(1, 1, 4) && w.hashAt(2, 2) == w.entry(1, 2, 4), true);
        Checks.due("vector", w.vector(2, 0) * 100 + w.vector(2, 1) * 10 + w.vector(2, 2), 110);
        w.move(2, 0);
        Checks.due("a shorter one", w.adopt(2), 1);
        Checks.dueThrows("the rest is forgotten", Checks.NO_SUCH, () -> w.hashAt(2, 2));
        Checks.due("vector", w.vector(2, 0) * 100 + w.vector(2, 1) * 10 + w.vector(2, 2), 100);
        w.read(0, 0);
        w.move(1, 0);
        Checks.due("a forked one", w.adopt(1), 2);
        Checks.due("its hash", w.hashAt(1, 2), w.entry(0, 2, 4));
        Checks.due("vector", w.vector(1, 0) * 100 + w.vector(1, 1) * 10 + w.vector(1, 2), 200);
        Checks.due("no entry", w.length(0), 2);
    }

    private static void calmByAdopt() {
        ForkWatch w = twoBranches();
        w.read(0, 0);
        w.exchange(0, 1);
        w.adopt(1);
        Checks.due("not suspicious", w.isSuspicious(1), false);
        Checks.due("the other one still", w.isSuspicious(0), true);
    }

    private static void answerOfAdopt() {
        ForkWatch w = Checks.service(3, 2, 50);
        Checks.due("an empty branch", w.adopt(0), 0);
        Checks.readOften(w, 1, 200);
        Checks.due("a full branch", w.adopt(0), 200);
        Checks.due("again", w.adopt(0), 200);
        w.rewind(0, 200);
        Checks.due("an empty branch again", w.adopt(0), 0);
        Checks.due("hash", w.receipt(0, 1), 1);
        Checks.due("vector", w.vector(0, 1), 0);
    }

    private static void noSuchAdopt() {
        ForkWatch w = Checks.service(3, 2, 50);
        for (int client : NO_CLIENT) {
            Checks.dueThrows("client " + client, Checks.NO_SUCH, () -> w.adopt(client));
        }
    }

    private static void forked() {
        ForkWatch w = twoBranches();
        Checks.due("an only client", w.fork(0b10), 2);
        Checks.due("its branch", w.branchOf(1), 2);
        Checks.due("all entries", w.length(2), 2);
        for (int at = 1; at <= 2; at++) {
            for (int what = 0; what <= 6; what++) {
                Checks.due("part " + what + " of " + at, w.entry(2, at, what), w.entry(1, at, what));
            }
        }
        Checks.due("all that see it", w.fork(0b101), 3);
        Checks.due("their branch", w.branchOf(0) * 10 + w.branchOf(2), 33);
        w.write(0, 0, 1);
        Checks.due("the old one stays", w.length(0) * 10 + w.length(3), 12);
        w.heal(3, 1);
        w.fork(1);
        for (int what = 0; what <= 6; what++) {
            Checks.due("part " + what + " of a merge", w.entry(5, 3, what), w.entry(4, 3, what));
        }
        Checks.due("which it is", w.entry(5, 3, 0), 2);
        ForkWatch v = Checks.service(6, 1, 50);
        Checks.due("an empty branch, all clients", v.fork(63), 1);
        Checks.due("its length", v.length(1), 0);
        Checks.readOften(v, 0, 200);
        Checks.due("a full branch", v.fork(32), 2);
        Checks.due("its length", v.length(2), 200);
    }

    private static void answerOfFork() {
        ForkWatch w = Checks.service(3, 2, 50);
        for (int made = 1; made <= 7; made++) {
            Checks.due("fork", w.fork(1 << made % 3), made);
        }
    }

    private static void wrongSets() {
        ForkWatch w = twoBranches();
        for (int set : new int[] {0, 8, 9, 15, 64, 1 << 30, Edges.MIN, Edges.MIN + 1, -1, Edges.MAX}) {
            Checks.dueThrows("set " + set, Checks.ARGUMENT, () -> w.fork(set));
        }
        Checks.due("none made", w.branches(), 2);
        for (int clients = 2; clients <= 6; clients++) {
            ForkWatch v = Checks.service(clients, 1, 50);
            int all = (1 << clients) - 1;
            Checks.dueThrows("one client more", Checks.ARGUMENT, () -> v.fork(all + 1));
            Checks.due("all clients", v.fork(all), 1);
        }
    }

    private static void refusedForks() {
        ForkWatch w = twoBranches();
        for (int set : new int[] {0b11, 0b110, 0b111}) {
            Checks.dueThrows("two branches by " + set, Checks.STATE, () -> w.fork(set));
        }
        Checks.due("none made", w.branches(), 2);
        for (int made = 2; made <= 7; made++) {
            Checks.due("branch", w.fork(2), made);
        }
        Checks.dueThrows("8 branches", Checks.STATE, () -> w.fork(2));
        Checks.dueThrows("8 branches, two clients", Checks.STATE, () -> w.fork(0b101));
        Checks.due("8 still", w.branches(), 8);
        Checks.due("nobody moved", w.branchOf(0) * 100 + w.branchOf(1) * 10 + w.branchOf(2), 70);
    }

    private static void moved() {
        ForkWatch w = twoBranches();
        String before = Snapshot.of(w);
        w.move(2, 1);
        Checks.due("another branch", w.branchOf(2), 1);
        Checks.due("nothing else", Snapshot.of(w), before.replaceFirst("client 2 sees 0", "client 2 sees 1"));
        w.read(0, 0);
        w.exchange(0, 1);
        w.move(1, 0);
        Checks.due("a suspicious one", w.branchOf(1), 0);
        Checks.due("stays suspicious", w.isSuspicious(1), true);
    }

    private static void answerOfMove() {
        ForkWatch w = twoBranches();
        Checks.due("from 0", w.move(0, 1), 0);
        Checks.due("from 1 to 1", w.move(0, 1), 1);
        Checks.due("from 1 to 0", w.move(0, 0), 1);
        for (int made = 2; made <= 7; made++) {
            w.fork(2);
        }
        Checks.due("to 7", w.move(2, 7), 0);
        Checks.due("from 7", w.move(2, 0), 7);
    }

    private static void noSuchMove() {
        ForkWatch w = twoBranches();
        for (int client : NO_CLIENT) {
            Checks.dueThrows("client " + client, Checks.NO_SUCH, () -> w.move(client, 0));
        }
        for (int branch : NO_BRANCH) {
            Checks.dueThrows("branch " + branch, Checks.NO_SUCH, () -> w.move(0, branch));
        }
        Checks.due("not moved", w.branchOf(0), 0);
    }

    private static void counts() {
        ForkWatch w = Checks.service(3, 2, 50);
        Checks.dueThrows("1 of 0", Checks.ARGUMENT, () -> w.rewind(0, 1));
        Checks.readOften(w, 0, 200);
        Checks.due("1 of 200", w.rewind(0, 1), 199);
        Checks.dueThrows("200 of 199", Checks.ARGUMENT, () -> w.rewind(0, 200));
        Checks.due("199 of 199", w.rewind(0, 199), 0);
        Checks.dueThrows("0 of 0", Checks.ARGUMENT, () -> w.rewind(0, 0));
        w.read(1, 0);
        Checks.due("1 of 1", w.rewind(0, 1), 0);
        ForkWatch v = Checks.service(3, 2, 50);
        Checks.readOften(v, 0, 200);
        Checks.due("200 of 200", v.rewind(0, 200), 0);
    }

    private static void rewound() {
        ForkWatch w = twoBranches();
        int first = w.entry(1, 1, 4);
        w.rewind(1, 1);
        Checks.due("the first entry stays", w.entry(1, 1, 4), first);
        Checks.dueThrows("the last one is gone", Checks.NO_SUCH, () -> w.entry(1, 2, 0));
        Checks.due("the value is gone", w.value(1, 1), 0);
        Checks.due("the other branch stays", w.length(0), 1);
        Checks.due("the clients stay", w.receipt(1, 0), 2);
        w.adopt(1);
        Checks.due("a new entry there", w.write(1, 0, 6), 2);
        Checks.due("its value", w.entry(1, 2, 3), 6);
        Checks.due("nothing of the old one", w.value(1, 1), 0);
    }

    private static void answerOfRewind() {
        ForkWatch w = Checks.service(3, 2, 50);
        Checks.readOften(w, 0, 10);
        Checks.due("3 of 10", w.rewind(0, 3), 7);
        Checks.due("length", w.length(0), 7);
        Checks.due("all", w.rewind(0, 7), 0);
    }

    private static void noSuchRewind() {
        ForkWatch w = twoBranches();
        for (int branch : NO_BRANCH) {
            Checks.dueThrows("branch " + branch, Checks.NO_SUCH, () -> w.rewind(branch, 1));
        }
        Checks.due("the last branch", w.rewind(1, 1), 1);
    }

    private static void wrongCounts() {
        ForkWatch w = twoBranches();
        for (int count : new int[] {0, -1, 3, 200, 201, Edges.MIN, Edges.MAX}) {
            Checks.dueThrows("count " + count, Checks.ARGUMENT, () -> w.rewind(1, count));
        }
        Checks.due("length", w.length(1), 2);
    }

    private static void corrupted() {
        ForkWatch w = twoBranches();
        w.read(1, 1);
        int second = w.entry(1, 2, 4);
        int third = w.entry(1, 3, 4);
        w.corrupt(1, 2, 6);
        Checks.due("the value", w.entry(1, 2, 3) * 10 + w.value(1, 1), 66);
        Checks.due("its hash", w.entry(1, 2, 4), second);
        Checks.due("the next hash", w.entry(1, 3, 4), third);
        Checks.due("the kind, the client, the block",
            w.entry(1, 2, 0) * 100 + w.entry(1, 2, 1) * 10 + w.entry(1, 2, 2), 111);
        Checks.due("wrong now", w.entry(1, 2, 6), 0);
        w.fork(2);
        w.corrupt(1, 2, 7);
        Checks.due("one branch only", w.entry(2, 2, 3), 6);
    }

    private static void corruptValues() {
        ForkWatch w = twoBranches();
        for (int value : new int[] {0, 1, 999998, 999999}) {
            w.corrupt(1, 2, value);
            Checks.due("value", w.entry(1, 2, 3), value);
        }
    }

    private static void answerOfCorrupt() {
        ForkWatch w = twoBranches();
        Checks.due("the written one", w.corrupt(1, 2, 0), 5);
        Checks.due("0", w.corrupt(1, 2, 999999), 0);
        Checks.due("999999", w.corrupt(1, 2, 5), 999999);
        Checks.due("right again", w.entry(1, 2, 6), 1);
        Checks.due("to the same", w.corrupt(1, 2, 5), 5);
        Checks.readOften(w, 1, 197);
        w.write(1, 0, 8);
        Checks.due("the last entry of a full branch", w.corrupt(1, 200, 9), 8);
    }

    private static void noSuchCorrupt() {
        ForkWatch w = twoBranches();
        for (int branch : NO_BRANCH) {
            Checks.dueThrows("branch " + branch, Checks.NO_SUCH, () -> w.corrupt(branch, 1, 0));
        }
        for (int position : new int[] {0, -1, 3, 200, 201, Edges.MIN, Edges.MAX}) {
            Checks.dueThrows("position " + position, Checks.NO_SUCH, () -> w.corrupt(1, position, 0));
        }
        w.rewind(1, 1);
        Checks.dueThrows("an entry that is gone", Checks.NO_SUCH, () -> w.corrupt(1, 2, 0));
    }

    private static void wrongCorrupt() {
        ForkWatch w = twoBranches();
        for (int value : NO_VALUE) {
            Checks.dueThrows("value " + value, Checks.ARGUMENT, () -> w.corrupt(1, 2, value));
        }
        Checks.due("the value stays", w.entry(1, 2, 3), 5);
    }

    private static void notAWrite() {
        ForkWatch w = twoBranches();
        Checks.dueThrows("a read", Checks.STATE, () -> w.corrupt(1, 1, 0));
        w.heal(0, 1);
        Checks.dueThrows("a merge", Checks.STATE, () -> w.corrupt(2, 2, 0));
        Checks.due("their values stay", w.entry(1, 1, 3) + w.entry(2, 2, 3), 0);
        Checks.due("a write behind the merge", w.corrupt(2, 3, 0), 5);
    }

    private static void healed() {
        ForkWatch w = twoBranches();
        Checks.dueThrows("the same", Checks.NO_SUCH, () -> w.heal(1, 1));
        w.heal(0, 1);
        Checks.due("the write of y comes behind the merge", w.entry(2, 2, 0) * 10 + w.entry(2, 3, 0), 21);
        ForkWatch v = twoBranches();
        v.heal(1, 0);
        Checks.due("the write of x comes before the merge", v.entry(2, 2, 0) * 10 + v.entry(2, 3, 0), 12);
    }

    private static void answerOfHeal() {
        ForkWatch w = twoBranches();
        Checks.due("the first", w.heal(0, 1), 2);
        Checks.due("the second", w.heal(1, 0), 3);
        for (int made = 4; made <= 6; made++) {
            w.fork(1);
        }
        Checks.due("the last", w.heal(0, 1), 7);
        Checks.due("branches", w.branches(), 8);
    }

    private static void noSuchHeal() {
        ForkWatch w = twoBranches();
        for (int branch : NO_BRANCH) {
            Checks.dueThrows("x " + branch, Checks.NO_SUCH, () -> w.heal(branch, 0));
            Checks.dueThrows("y " + branch, Checks.NO_SUCH, () -> w.heal(0, branch));
            Checks.dueThrows("both " + branch, Checks.NO_SUCH, () -> w.heal(branch, branch));
        }
        Checks.dueThrows("both 0", Checks.NO_SUCH, () -> w.heal(0, 0));
        Checks.dueThrows("both 1", Checks.NO_SUCH, () -> w.heal(1, 1));
        Checks.due("none made", w.branches(), 2);
    }

    private static void conflictingHeal() {
        ForkWatch w = twoBranches();
        w.read(0, 1);
        Checks.due("the set", w.conflicts(0, 1), 2);
        Checks.dueThrows("read and write", Checks.STATE, () -> w.heal(0, 1));
        Checks.dueThrows("write and read", Checks.STATE, () -> w.heal(1, 0));
        Checks.due("none made", w.branches(), 2);
        w.rewind(0, 1);
        w.adopt(0);
        w.write(0, 1, 5);
        Checks.dueThrows("write and write of the same value", Checks.STATE, () -> w.heal(0, 1));
        w.rewind(0, 1);
        w.adopt(0);
        w.write(0, 0, 5);
        Checks.due("another block", w.heal(0, 1), 2);
    }

    private static void ninthBranch() {
        ForkWatch w = twoBranches();
        for (int made = 2; made <= 6; made++) {
            w.fork(1);
        }
        Checks.due("the eighth", w.heal(1, 0), 7);
        Checks.dueThrows("the ninth", Checks.STATE, () -> w.heal(1, 0));
        Checks.due("8 still", w.branches(), 8);
        Checks.due("nobody moved", w.branchOf(0) * 100 + w.branchOf(1) * 10 + w.branchOf(2), 677);
    }

    private static void longHeal() {
        ForkWatch w = Checks.service(3, 2, 50);
        Checks.readOften(w, 2, 120);
        w.fork(2);
        Checks.readOften(w, 0, 40);
        Checks.readOften(w, 1, 40);
        Checks.dueThrows("160, a merge and 40", Checks.STATE, () -> w.heal(0, 1));
        Checks.dueThrows("turned round", Checks.STATE, () -> w.heal(1, 0));
        Checks.due("none made", w.branches(), 2);
        w.rewind(1, 1);
        Checks.due("160, a merge and 39", w.heal(0, 1), 2);
        Checks.due("length", w.length(2), 200);
        ForkWatch v = Checks.service(2, 1, 50);
        Checks.readOften(v, 0, 200);
        v.fork(2);
        Checks.dueThrows("200 and a merge", Checks.STATE, () -> v.heal(0, 1));
        v.rewind(0, 1);
        Checks.dueThrows("199, a merge and 1", Checks.STATE, () -> v.heal(0, 1));
        v.rewind(1, 1);
        Checks.due("199 and a merge", v.heal(0, 1), 2);
    }
}
