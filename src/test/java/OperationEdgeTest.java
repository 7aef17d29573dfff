import java.io.IOException;

/** The boundary cases of section 2, CLIENTS, sentence by sentence. */
public final class OperationEdgeTest {
    public static void main(String[] args) throws IOException {
        Edges.open(args);
        Edges.edge("A client has a position p (0 at first), the hashes of its history at the positions 0 to p",
            OperationEdgeTest::positions);
        Edges.edge("for each client the number of its entries (reads and writes) in this history",
            OperationEdgeTest::vectors);
        Edges.edge("It may be suspicious; it does no operations then.", OperationEdgeTest::suspicious);
        Edges.edge("the signature (hash * 31 + position * 17 + client * 13 + 12345) modulo 2147483647",
            OperationEdgeTest::signatures);
        Edges.edge("In the first of these cases that applies, the client writes a blame record, becomes suspicious",
            OperationEdgeTest::firstCase);
        Edges.edge("the operation is not done; position, hashes and version vector of the client stay",
            OperationEdgeTest::notDone);
        Edges.edge("(1) The length of the branch is less than p: a rollback.", OperationEdgeTest::rollback);
        Edges.edge("The record has the position p, the client's hash there, and as the second hash that of the last "
            + "entry of the branch (1 without an entry).", OperationEdgeTest::rollbackRecord);
        Edges.edge("(2) The hash of the branch at the position p is not the client's hash there: a fork.",
            OperationEdgeTest::fork);
        Edges.edge("The record has the least position at which the hashes of both are different, the client's hash "
            + "there, and the hash of the branch there.", OperationEdgeTest::forkRecord);
        Edges.edge("(3) Of the entries of the branch behind p, one has a hash that is not the one computed from the "
            + "hash of the entry before it and its own contents: a tampering.", OperationEdgeTest::tampering);
        Edges.edge("The record has the position of the first such entry, the computed hash, and the hash of the entry.",
            OperationEdgeTest::tamperingRecord);
        Edges.edge("(4) A post on the witness board has a position of at most the length of the branch, and its hash "
            + "is not that of the branch there: a fork.", OperationEdgeTest::witness);
        Edges.edge("The record has the position of the first such post, the hash of the branch there, the hash of the "
            + "post, and the client of the post as the other client.", OperationEdgeTest::witnessRecord);
        Edges.edge("Otherwise an entry for the operation is appended to the branch. The history of the client is that "
            + "of the branch then.", OperationEdgeTest::appended);
        Edges.edge("If the number of operations that the client has done is a multiple of the witness interval, the "
            + "client posts its receipt on the board (section 3).", OperationEdgeTest::intervals);
        Edges.edge("Two histories are forked if their hashes are different at the lower one of both positions.",
            OperationEdgeTest::forked);
        Edges.edge("A blame record has a kind (1 rollback, 2 fork, 3 tampering), a client, another client (-1 without "
            + "one), a position and two hashes.", OperationEdgeTest::recordParts);
        Edges.edge("At most 60 records are kept, numbered from 0; if there are more, the oldest one is removed, and "
            + "the numbers of the others are one less.", OperationEdgeTest::sixtyRecords);
        Checks.finish();
    }

    private static void dueRecord(ForkWatch w, int index, long... parts) {
        Checks.due("records", w.blames(), index + 1);
        for (int what = 0; what < 6; what++) {
            Checks.due("part " + what + " of record " + index, w.blame(index, what), parts[what]);
        }
    }

    private static void dueFound(ForkWatch w, int client) {
        Checks.dueThrows("an operation of " + client, Checks.STATE, () -> w.read(client, 0));
    }

    private static void positions() {
        ForkWatch w = Checks.service(2, 1, 50);
        Checks.due("at first", w.receipt(1, 0), 0);
        Checks.due("the only hash", w.hashAt(1, 0), 1);
        Checks.dueThrows("no hash behind it", Checks.NO_SUCH, () -> w.hashAt(1, 1));
        Checks.readOften(w, 0, 200);
        Checks.due("at most 200", w.receipt(0, 0), 200);
        for (int at = 1; at <= 200; at++) {
            Checks.due("hash at " + at, w.hashAt(0, at), w.entry(0, at, 4));
        }
        Checks.dueThrows("none at 201", Checks.NO_SUCH, () -> w.hashAt(0, 201));
    }

    private static void vectors() {
        ForkWatch w = Checks.service(3, 2, 50);
        Checks.due("0 at first", w.vector(0, 0) + w.vector(0, 1) + w.vector(0, 2), 0);
        w.read(1, 0);
        w.write(1, 0, 1);
        w.fork(4);
        w.heal(0, 1);
        w.read(0, 0);
        Checks.due("reads and writes", w.vector(0, 1), 2);
        Checks.due("its own", w.vector(0, 0), 1);
        Checks.due("merges are nobody's", w.vector(0, 2), 0);
        Checks.due("though there is one", w.receipt(0, 0), 4);
        ForkWatch v = Checks.service(2, 1, 50);
        Checks.readOften(v, 1, 200);
        Checks.due("200 entries of one client", v.vector(1, 1), 200);
    }

    private static void suspicious() {
        ForkWatch w = Checks.service(2, 1, 1);
        w.read(0, 0);
        w.fork(2);
        w.rewind(0, 1);
        dueFound(w, 0);
        w.move(0, 1);
        Checks.due("nothing to find any more", w.wouldFind(0), 0);
        Checks.dueThrows("no read", Checks.STATE, () -> w.read(0, 0));
        Checks.dueThrows("no write", Checks.STATE, () -> w.write(0, 0, 5));
        Checks.due("no record more", w.blames(), 1);
        Checks.due("no post more", w.posts(), 1);
        Checks.due("no entry more", w.length(1), 1);
        w.calm(0);
        Checks.due("calm again", w.write(0, 0, 5), 2);
    }

    private static void signatures() {
        ForkWatch w = Checks.service(6, 16, 50);
        Checks.due("at the start", w.receipt(5, 2), 31 + 5 * 13 + 12345);
        Checks.due("just below the modulus", w.isSigned(0, 0, 69273267, 2147483622), true);
        Checks.due("the modulus itself is 0", w.isSigned(3, 1, 69273266, 0), true);
        Checks.due("and not itself", w.isSigned(3, 1, 69273266, 2147483647), false);
        Checks.due("just above it", w.isSigned(0, 0, 69273268, 6), true);
        Checks.readOften(w, 5, 200);
        long hash = w.receipt(5, 1);
        Checks.due("at 200", w.receipt(5, 2), (hash * 31 + 200 * 17 + 5 * 13 + 12345) % 2147483647L);
    }

    /** Each two cases that can apply at once. */
    private static void firstCase() {
        ForkWatch w = Checks.service(3, 1, 50);
        w.read(0, 0);
        w.read(0, 0);
        w.post(0);
        w.rewind(0, 2);
        w.read(1, 0);
        w.post(1);
        w.rewind(0, 1);
        w.read(2, 0);
        Checks.due("rollback and refuted: rollback", w.wouldFind(0), 1);
        dueFound(w, 0);
        Checks.due("its record", w.blame(0, 0) * 10 + w.blame(0, 2), 9);
        ForkWatch v = Checks.service(2, 1, 50);
        v.fork(2);
        v.read(0, 0);
        v.write(1, 0, 1);
        v.write(1, 0, 2);
        v.corrupt(1, 2, 3);
        v.move(0, 1);
        Checks.due("fork and tampering: fork", v.wouldFind(0), 2);
        v.corrupt(1, 2, 2);
        v.post(0);
        Checks.due("fork and refuted: fork", v.wouldFind(0), 2);
        dueFound(v, 0);
        Checks.due("its record has no other client", v.blame(0, 2), -1);
        ForkWatch u = Checks.service(3, 1, 50);
        u.fork(2);
        u.read(0, 0);
        u.post(0);
        u.write(1, 0, 1);
        u.corrupt(1, 1, 2);
        u.move(2, 1);
        Checks.due("tampering and refuted: tampering", u.wouldFind(2), 3);
        dueFound(u, 2);
        Checks.due("its record", u.blame(0, 0), 3);
        Checks.due("one record only", u.blames(), 1);
        Checks.due("suspicious", u.isSuspicious(2), true);
    }

    /** In each of the four cases. */
    private static void notDone() {
        ForkWatch w = Checks.service(4, 1, 50);
        w.read(0, 0);
        w.read(1, 0);
        w.fork(2);
        w.rewind(1, 1);
        dueStays(w, 1, 1);
        w.write(0, 0, 2);
        w.move(2, 1);
        w.write(2, 0, 3);
        w.write(2, 0, 4);
        w.write(2, 0, 5);
        w.move(0, 1);
        dueStays(w, 0, 2);
        w.corrupt(1, 4, 6);
        w.move(3, 1);
        dueStays(w, 3, 3);
        w.calm(3);
        w.corrupt(1, 4, 5);
        w.post(0);
        dueStays(w, 3, 4);
    }

    private static void dueStays(ForkWatch w, int client, int found) {
        String before = historyOf(w, client);
        int branch = w.branchOf(client);
        int length = w.length(branch);
        Checks.due("the case for " + client, w.wouldFind(client), found);
        Checks.dueThrows("a write in case " + found, Checks.STATE, () -> w.write(client, 0, 77));
        Checks.due("the history in case " + found, historyOf(w, client), before);
        Checks.due("the branch in case " + found, w.length(branch), length);
        Checks.due("suspicious in case " + found, w.isSuspicious(client), true);
    }

    private static String historyOf(ForkWatch w, int client) {
        StringBuilder text = new StringBuilder();
        for (int at = 0; at <= w.receipt(client, 0); at++) {
            text.append(w.hashAt(client, at)).append(' ');
        }
        for (int other = 0; other < w.clients(); other++) {
            text.append(' ').append(w.vector(client, other));
        }
        return text.toString();
    }

    private static void rollback() {
        ForkWatch w = Checks.service(2, 1, 50);
        w.read(0, 0);
        w.read(0, 0);
        w.read(0, 0);
        Checks.due("as long as p", w.wouldFind(0), 0);
        w.rewind(0, 1);
        Checks.due("one less", w.wouldFind(0), 1);
        w.rewind(0, 2);
        Checks.due("nothing left", w.wouldFind(0), 1);
        Checks.due("p is 0 and so is the length", w.wouldFind(1), 0);
        dueFound(w, 0);
        Checks.due("kind", w.blame(0, 0), 1);
    }

    private static void rollbackRecord() {
        ForkWatch w = Checks.service(2, 1, 50);
        w.read(0, 0);
        w.read(0, 0);
        w.read(0, 0);
        int first = w.entry(0, 1, 4);
        int third = w.entry(0, 3, 4);
        w.rewind(0, 2);
        dueFound(w, 0);
        dueRecord(w, 0, 1, 0, -1, 3, third, first);
        w.calm(0);
        w.rewind(0, 1);
        dueFound(w, 0);
        dueRecord(w, 1, 1, 0, -1, 3, third, 1);
    }

    private static void fork() {
        ForkWatch w = Checks.service(3, 2, 50);
        w.read(2, 0);
        w.fork(2);
        w.read(0, 0);
        w.read(1, 0);
        w.read(1, 0);
        w.move(2, 1);
        Checks.due("different behind p only", w.wouldFind(2), 0);
        w.move(0, 1);
        Checks.due("different at p", w.wouldFind(0), 2);
        dueFound(w, 0);
        Checks.due("kind", w.blame(0, 0), 2);
        int[] values = Checks.collidingWrites();
        ForkWatch v = Checks.service(2, 2, 50);
        v.fork(2);
        v.write(0, 0, values[0]);
        v.write(1, 0, values[1]);
        v.write(0, 1, values[2]);
        v.write(1, 1, values[3]);
        v.move(0, 1);
        Checks.due("different before p", v.hashAt(0, 1) == v.entry(1, 1, 4), false);
        Checks.due("the same at p", v.hashAt(0, 2), v.entry(1, 2, 4));
        Checks.due("is no fork", v.wouldFind(0), 0);
        Checks.due("so the operation is done", v.write(0, 0, 1), 3);
        Checks.due("and the history is the branch's", v.hashAt(0, 1), v.entry(1, 1, 4));
    }

    private static void forkRecord() {
        for (int common = 0; common <= 2; common++) {
            ForkWatch w = Checks.service(2, 1, 50);
            Checks.readOften(w, 0, common);
            w.fork(2);
            Checks.readOften(w, 0, 3);
            Checks.readOften(w, 1, 4);
            w.move(0, 1);
            dueFound(w, 0);
            dueRecord(w, 0, 2, 0, -1, common + 1, w.entry(0, common + 1, 4), w.entry(1, common + 1, 4));
        }
        ForkWatch w = Checks.service(2, 1, 50);
        Checks.readOften(w, 0, 199);
        w.fork(2);
        w.read(0, 0);
        w.read(1, 0);
        w.move(0, 1);
        dueFound(w, 0);
        dueRecord(w, 0, 2, 0, -1, 200, w.entry(0, 200, 4), w.entry(1, 200, 4));
    }

    private static void tampering() {
        ForkWatch w = Checks.service(3, 1, 50);
        w.write(0, 0, 1);
        w.write(0, 0, 2);
        w.read(1, 0);
        w.write(0, 0, 4);
        w.write(0, 0, 5);
        Checks.due("sound", w.wouldFind(1), 0);
        w.corrupt(0, 2, 22);
        Checks.due("before p", w.wouldFind(1), 0);
        Checks.due("for one that has nothing yet", w.wouldFind(2), 3);
        w.corrupt(0, 4, 44);
        Checks.due("just behind p", w.wouldFind(1), 3);
        w.corrupt(0, 4, 4);
        w.corrupt(0, 5, 55);
        Checks.due("the last entry", w.wouldFind(1), 3);
        w.corrupt(0, 5, 5);
        Checks.due("mended", w.wouldFind(1), 0);
        w.corrupt(0, 5, 5);
        Checks.due("the same value is no change", w.wouldFind(1), 0);
        w.move(0, 0);
        w.corrupt(0, 5, 6);
        Checks.due("at p itself", w.wouldFind(0), 0);
        w.corrupt(0, 2, 2);
        w.corrupt(0, 5, 5);
        w.corrupt(0, 1, 11);
        Checks.due("the first entry", w.wouldFind(2), 3);
        dueFound(w, 2);
        Checks.due("kind", w.blame(0, 0), 3);
    }

    private static void tamperingRecord() {
        ForkWatch w = Checks.service(2, 1, 50);
        w.write(0, 0, 1);
        w.write(0, 0, 2);
        w.write(0, 0, 3);
        w.corrupt(0, 3, 33);
        dueFound(w, 1);
        dueRecord(w, 0, 3, 1, -1, 3, Checks.writeHash(w.entry(0, 2, 4), 0, 0, 33, 3), w.entry(0, 3, 4));
        w.calm(1);
        w.corrupt(0, 1, 11);
        dueFound(w, 1);
        dueRecord(w, 1, 3, 1, -1, 1, Checks.writeHash(1, 0, 0, 11, 1), w.entry(0, 1, 4));
        w.calm(1);
        w.corrupt(0, 1, 1);
        w.corrupt(0, 2, 0);
        dueFound(w, 1);
        dueRecord(w, 2, 3, 1, -1, 2, Checks.writeHash(w.entry(0, 1, 4), 0, 0, 0, 2), w.entry(0, 2, 4));
    }

    private static void witness() {
        ForkWatch w = Checks.service(3, 1, 50);
        w.fork(2);
        w.read(0, 0);
        w.read(0, 0);
        w.post(2);
        w.post(0);
        Checks.due("an empty branch", w.wouldFind(1), 0);
        w.read(1, 0);
        Checks.due("the post is one behind the length", w.wouldFind(1), 0);
        w.read(1, 0);
        Checks.due("the post is at the length", w.wouldFind(1), 4);
        Checks.due("the same hash", w.wouldFind(0), 0);
        w.move(2, 1);
        Checks.due("for one that has seen nothing", w.wouldFind(2), 4);
        w.rewind(1, 1);
        Checks.due("shorter again", w.wouldFind(2), 0);
        w.calm(1);
        w.adopt(1);
        Checks.readOften(w, 1, 1);
        dueFound(w, 2);
        Checks.due("kind", w.blame(0, 0), 2);
        ForkWatch v = Checks.service(2, 1, 50);
        v.post(0);
        v.read(0, 0);
        Checks.due("a post of position 0 refutes nothing", v.wouldFind(0) + v.wouldFind(1), 0);
        ForkWatch u = Checks.service(2, 1, 50);
        Checks.readOften(u, 0, 199);
        u.fork(2);
        u.read(0, 0);
        u.post(0);
        u.read(1, 0);
        Checks.due("at 200", u.wouldFind(1), 4);
        Checks.due("at 200 for its own", u.wouldFind(0), 0);
    }

    private static void witnessRecord() {
        ForkWatch w = Checks.service(4, 1, 50);
        w.fork(2);
        w.fork(4);
        w.read(0, 0);
        w.read(2, 0);
        w.read(2, 0);
        w.read(1, 0);
        w.read(1, 0);
        w.post(1);
        w.post(2);
        w.post(0);
        dueFound(w, 1);
        dueRecord(w, 0, 2, 1, 2, 2, w.entry(1, 2, 4), w.entry(2, 2, 4));
        dueFound(w, 2);
        dueRecord(w, 1, 2, 2, 1, 2, w.entry(2, 2, 4), w.entry(1, 2, 4));
        w.move(3, 1);
        dueFound(w, 3);
        dueRecord(w, 2, 2, 3, 2, 2, w.entry(1, 2, 4), w.entry(2, 2, 4));
        // The post may be anywhere in the branch.
        ForkWatch u = Checks.service(3, 1, 50);
        u.read(2, 0);
        u.fork(2);
        u.read(0, 0);
        Checks.readOften(u, 1, 4);
        u.post(0);
        dueFound(u, 1);
        dueRecord(u, 0, 2, 1, 0, 2, u.entry(1, 2, 4), u.entry(0, 2, 4));
        // Its own post can be against the branch, too.
        ForkWatch v = Checks.service(2, 1, 50);
        v.read(0, 0);
        v.post(0);
        int old = v.entry(0, 1, 4);
        v.rewind(0, 1);
        v.read(1, 0);
        v.adopt(0);
        dueFound(v, 0);
        dueRecord(v, 0, 2, 0, 0, 1, v.entry(0, 1, 4), old);
    }

    private static void appended() {
        ForkWatch w = Checks.service(3, 2, 50);
        w.write(0, 1, 5);
        w.read(1, 1);
        Checks.due("behind all others", w.write(2, 0, 6), 3);
        int[] parts = {1, 2, 0, 6, (int) Checks.writeHash(w.entry(0, 2, 4), 2, 0, 6, 3), 0, 1};
        for (int what = 0; what <= 6; what++) {
            Checks.due("part " + what, w.entry(0, 3, what), parts[what]);
        }
        for (int at = 1; at <= 3; at++) {
            Checks.due("hash at " + at, w.hashAt(2, at), w.entry(0, at, 4));
        }
        Checks.due("vector", w.vector(2, 0) * 100 + w.vector(2, 1) * 10 + w.vector(2, 2), 111);
        Checks.due("others stay", w.receipt(0, 0) * 10 + w.receipt(1, 0), 12);
        w.fork(1);
        w.read(0, 0);
        Checks.due("only the branch that it sees", w.length(0) * 10 + w.length(1), 34);
    }

    private static void intervals() {
        for (int interval : new int[] {1, 2, 49, 50}) {
            ForkWatch w = Checks.service(2, 1, interval);
            w.read(1, 0);
            int byOther = interval == 1 ? 1 : 0;
            Checks.readOften(w, 0, interval - 1);
            Checks.due("one operation less than " + interval, w.posts(), byOther);
            w.write(0, 0, 1);
            Checks.due("operation " + interval, w.posts(), byOther + 1);
            int last = w.posts() - 1;
            Checks.due("client", w.boardPost(last, 0), 0);
            Checks.due("position", w.boardPost(last, 1), w.receipt(0, 0));
            Checks.due("hash", w.boardPost(last, 2), w.receipt(0, 1));
            Checks.readOften(w, 0, interval);
            Checks.due("operation " + 2 * interval, w.posts(), byOther + 2);
        }
        countedOperations();
    }

    /** Operations that are not done do not count; those that are done count though their entries are gone. */
    private static void countedOperations() {
        ForkWatch w = Checks.service(2, 1, 3);
        w.read(0, 0);
        w.rewind(0, 1);
        dueFound(w, 0);
        dueFound(w, 0);
        w.adopt(0);
        w.read(0, 0);
        Checks.due("two done, two not", w.posts(), 0);
        w.rewind(0, 1);
        w.adopt(0);
        w.post(1);
        w.read(0, 0);
        Checks.due("the third one", w.posts(), 2);
        Checks.due("is at position 1", w.boardPost(1, 1), 1);
        ForkWatch v = Checks.service(2, 1, 2);
        Checks.readOften(v, 1, 200);
        int last = v.boardPost(39, 3);
        Checks.dueThrows("a full branch", Checks.STATE, () -> v.read(0, 0));
        v.rewind(0, 1);
        v.read(0, 0);
        Checks.due("the one before was not done", v.boardPost(39, 3), last);
        v.rewind(0, 1);
        v.adopt(0);
        v.write(0, 0, 1);
        Checks.due("the second one done", v.boardPost(39, 0), 0);
    }

    private static void forked() {
        ForkWatch w = Checks.service(4, 1, 50);
        Checks.due("both at 0", w.exchange(0, 1), 0);
        w.fork(2);
        w.read(0, 0);
        w.read(0, 0);
        Checks.due("one at 0", w.exchange(0, 1), 2);
        w.read(1, 0);
        Checks.due("different at the lower one", w.exchange(0, 1), 3);
        w.move(2, 1);
        w.adopt(2);
        Checks.due("the same at an equal position", w.exchange(1, 2), 0);
        w.read(2, 0);
        Checks.due("the same at the lower one", w.exchange(1, 2), 1);
        Checks.due("different at an equal position", w.exchange(0, 2), 3);
        int[] values = Checks.collidingWrites();
        ForkWatch v = Checks.service(2, 2, 50);
        v.fork(2);
        v.write(0, 0, values[0]);
        v.write(1, 0, values[1]);
        Checks.due("forked at 1", v.forkedPairs(), 1);
        v.write(0, 1, values[2]);
        v.write(1, 1, values[3]);
        Checks.due("not at 2, where the hashes are the same", v.forkedPairs(), 0);
        Checks.due("nor by exchange", v.exchange(0, 1), 0);
        v.read(0, 0);
        Checks.due("nor with one more", v.exchange(0, 1), 2);
    }

    private static void recordParts() {
        ForkWatch w = Checks.service(3, 1, 50);
        w.write(0, 0, 1);
        w.rewind(0, 1);
        dueFound(w, 0);
        Checks.due("rollback", w.blame(0, 0), 1);
        w.write(1, 0, 2);
        w.calm(0);
        dueFound(w, 0);
        Checks.due("fork", w.blame(1, 0), 2);
        w.corrupt(0, 1, 3);
        dueFound(w, 2);
        Checks.due("tampering", w.blame(2, 0), 3);
        w.exchange(0, 1);
        Checks.due("fork by exchange", w.blame(3, 0), 2);
        int[] others = {-1, -1, -1, 1};
        int[] clients = {0, 0, 2, 0};
        for (int index = 0; index < 4; index++) {
            Checks.due("client of " + index, w.blame(index, 1), clients[index]);
            Checks.due("other client of " + index, w.blame(index, 2), others[index]);
        }
    }

    private static void sixtyRecords() {
        ForkWatch w = Checks.service(3, 1, 50);
        w.fork(2);
        w.fork(4);
        w.read(0, 0);
        w.read(1, 0);
        w.read(2, 0);
        Checks.due("59 records", Checks.run(w, "exchange 0 1;" + "exchange 1 2;".repeat(58)), 59);
        Checks.due("59", w.blames(), 59);
        w.exchange(2, 0);
        Checks.due("60", w.blames(), 60);
        Checks.due("the oldest one", w.blame(0, 1), 0);
        Checks.due("the newest one", w.blame(59, 1), 2);
        w.exchange(0, 2);
        Checks.due("60 still", w.blames(), 60);
        Checks.due("the oldest one is removed", w.blame(0, 1) * 10 + w.blame(0, 2), 12);
        Checks.due("the number of the last one is one less", w.blame(58, 1) * 10 + w.blame(58, 2), 20);
        Checks.due("the new one", w.blame(59, 1) * 10 + w.blame(59, 2), 2);
        Checks.due("its hashes", w.blame(59, 4) + 0L + w.blame(59, 5), w.receipt(0, 1) + 0L + w.receipt(2, 1));
        Checks.dueThrows("no record 60", Checks.NO_SUCH, () -> w.blame(60, 0));
    }
}
