/** Promises 8 to 13: write, read, exchange, post, calm, adopt. */
public final class OperationTest {
    public static void main(String[] args) {
        writing();
        reading();
        rollback();
        forkFound();
        tampering();
        witness();
        firstCaseCounts();
        fullBranch();
        intervals();
        exchanging();
        posting();
        calming();
        adopting();
        Checks.finish();
    }

    private static void writing() {
        ForkWatch w = Checks.service(3, 2, 50);
        Checks.due("write", w.write(2, 1, 999999), 1);
        long hash = Checks.writeHash(1, 2, 1, 999999, 1);
        Checks.due("hash", w.entry(0, 1, 4), hash);
        Checks.due("write 0", w.write(0, 0, 0), 2);
        Checks.due("hash of 0", w.entry(0, 2, 4), Checks.writeHash(hash, 0, 0, 0, 2));
        Checks.due("position of the writer", w.receipt(0, 0), 2);
        Checks.due("its history has the first hash", w.hashAt(0, 1), hash);
        Checks.due("the other writer's position", w.receipt(2, 0), 1);
        Checks.due("vector", w.vector(0, 2) * 10 + w.vector(0, 0), 11);
        Checks.dueThrows("client 3", Checks.NO_SUCH, () -> w.write(3, 0, 1));
        Checks.dueThrows("client -1", Checks.NO_SUCH, () -> w.write(-1, 0, 1));
        Checks.dueThrows("block 2", Checks.NO_SUCH, () -> w.write(0, 2, 1));
        Checks.dueThrows("block -1", Checks.NO_SUCH, () -> w.write(0, -1, 1));
        Checks.dueThrows("no block before value", Checks.NO_SUCH, () -> w.write(0, 2, -1));
        Checks.dueThrows("value -1", Checks.ARGUMENT, () -> w.write(0, 0, -1));
        Checks.dueThrows("value 1000000", Checks.ARGUMENT, () -> w.write(0, 0, 1000000));
        Checks.due("nothing written", w.length(0), 2);
        w.rewind(0, 2);
        Checks.dueThrows("value before the state", Checks.ARGUMENT, () -> w.write(0, 0, -1));
        Checks.due("no blame by that", w.blames(), 0);
        Checks.dueThrows("found now", Checks.STATE, () -> w.write(0, 0, 1));
        Checks.dueThrows("value before suspicion", Checks.ARGUMENT, () -> w.write(0, 0, 1000000));
    }

    private static void reading() {
        ForkWatch w = Checks.service(3, 2, 50);
        Checks.due("read without a write", w.read(1, 1), 0);
        long hash = Checks.readHash(1, 1, 1, 1);
        Checks.due("hash", w.entry(0, 1, 4), hash);
        w.write(0, 1, 7);
        w.write(0, 0, 8);
        Checks.due("read", w.read(2, 1), 7);
        Checks.due("hash of the read", w.entry(0, 4, 4), Checks.readHash(w.entry(0, 3, 4), 2, 1, 4));
        Checks.due("value of a read entry", w.entry(0, 4, 3), 0);
        Checks.due("position", w.receipt(2, 0), 4);
        Checks.due("vector", w.vector(2, 2), 1);
        Checks.dueThrows("client 3", Checks.NO_SUCH, () -> w.read(3, 0));
        Checks.dueThrows("client min", Checks.NO_SUCH, () -> w.read(Integer.MIN_VALUE, 0));
        Checks.dueThrows("block 2", Checks.NO_SUCH, () -> w.read(0, 2));
        Checks.dueThrows("block -1", Checks.NO_SUCH, () -> w.read(0, -1));
        Checks.due("nothing appended", w.length(0), 4);
    }

    private static void dueBlame(ForkWatch w, int index, long... parts) {
        Checks.due("blames", w.blames(), index + 1);
        for (int what = 0; what < 6; what++) {
            Checks.due("blame " + index + " part " + what, w.blame(index, what), parts[what]);
        }
    }

    private static void rollback() {
        ForkWatch w = Checks.service(2, 2, 50);
        w.write(0, 0, 1);
        w.write(0, 1, 2);
        int first = w.entry(0, 1, 4);
        int second = w.entry(0, 2, 4);
        w.rewind(0, 1);
        Checks.dueThrows("rollback", Checks.STATE, () -> w.read(0, 0));
        dueBlame(w, 0, 1, 0, -1, 2, second, first);
        Checks.due("suspicious", w.isSuspicious(0), true);
        Checks.due("the history stays", w.receipt(0, 0), 2);
        Checks.due("the hash stays", w.receipt(0, 1), second);
        Checks.due("the vector stays", w.vector(0, 0), 2);
        Checks.due("nothing appended", w.length(0), 1);
        Checks.dueThrows("suspicious", Checks.STATE, () -> w.read(0, 0));
        Checks.due("no more blames", w.blames(), 1);
        w.rewind(0, 1);
        w.calm(0);
        Checks.dueThrows("rollback to nothing", Checks.STATE, () -> w.write(0, 0, 0));
        dueBlame(w, 1, 1, 0, -1, 2, second, 1);
    }

    private static void forkFound() {
        ForkWatch w = Checks.service(2, 2, 50);
        w.write(0, 0, 1);
        w.fork(2);
        w.write(0, 1, 2);
        w.write(0, 1, 3);
        w.read(1, 0);
        w.read(1, 1);
        w.read(1, 1);
        w.move(0, 1);
        Checks.dueThrows("fork", Checks.STATE, () -> w.write(0, 0, 1));
        dueBlame(w, 0, 2, 0, -1, 2, w.entry(0, 2, 4), w.entry(1, 2, 4));
        Checks.due("suspicious", w.isSuspicious(0), true);
        Checks.due("the other one is not", w.isSuspicious(1), false);
        Checks.due("the history stays", w.hashAt(0, 3), w.entry(0, 3, 4));
        Checks.due("nothing appended", w.length(1), 4);
    }

    private static void tampering() {
        ForkWatch w = Checks.service(2, 2, 50);
        w.write(0, 0, 1);
        w.write(0, 0, 2);
        w.write(0, 1, 3);
        w.write(0, 1, 4);
        w.corrupt(0, 2, 22);
        w.corrupt(0, 3, 33);
        Checks.due("0 has verified these already", w.read(0, 0), 22);
        Checks.dueThrows("1 has not", Checks.STATE, () -> w.read(1, 0));
        dueBlame(w, 0, 3, 1, -1, 2, Checks.writeHash(w.entry(0, 1, 4), 0, 0, 22, 2), w.entry(0, 2, 4));
        Checks.due("suspicious", w.isSuspicious(1), true);
        w.calm(1);
        w.corrupt(0, 2, 2);
        Checks.dueThrows("the next one", Checks.STATE, () -> w.write(1, 0, 1));
        dueBlame(w, 1, 3, 1, -1, 3, Checks.writeHash(w.entry(0, 2, 4), 0, 1, 33, 3), w.entry(0, 3, 4));
        w.calm(1);
        w.corrupt(0, 3, 3);
        Checks.due("all mended", w.read(1, 1), 4);
        ForkWatch v = Checks.service(2, 1, 50);
        v.write(0, 0, 1);
        v.corrupt(0, 1, 2);
        Checks.dueThrows("the first entry", Checks.STATE, () -> v.read(1, 0));
        dueBlame(v, 0, 3, 1, -1, 1, Checks.writeHash(1, 0, 0, 2, 1), v.entry(0, 1, 4));
    }

    private static void witness() {
        ForkWatch w = Checks.service(3, 2, 50);
        w.post(2);
        w.write(0, 0, 1);
        w.fork(6);
        w.write(0, 0, 2);
        w.write(0, 0, 3);
        w.write(0, 0, 4);
        w.post(0);
        w.write(1, 1, 5);
        Checks.due("the post is behind the end of the branch", w.read(1, 1), 5);
        Checks.due("only just", w.length(1), 3);
        w.read(1, 1);
        Checks.dueThrows("the post is at the end of the branch", Checks.STATE, () -> w.read(1, 1));
        dueBlame(w, 0, 2, 1, 0, 4, w.entry(1, 4, 4), w.entry(0, 4, 4));
        Checks.due("suspicious", w.isSuspicious(1), true);
        Checks.due("the witness is not", w.isSuspicious(0), false);
        w.post(1);
        Checks.dueThrows("0 sees the post of 1", Checks.STATE, () -> w.read(0, 1));
        dueBlame(w, 1, 2, 0, 1, 4, w.entry(0, 4, 4), w.entry(1, 4, 4));
        Checks.dueThrows("2 has seen nothing yet", Checks.STATE, () -> w.read(2, 1));
        dueBlame(w, 2, 2, 2, 0, 4, w.entry(1, 4, 4), w.entry(0, 4, 4));
        ForkWatch v = Checks.service(2, 1, 50);
        v.fork(2);
        v.write(0, 0, 1);
        v.write(1, 0, 2);
        v.write(1, 0, 3);
        v.write(1, 0, 4);
        v.post(0);
        Checks.dueThrows("a post amid the branch", Checks.STATE, () -> v.read(1, 0));
        dueBlame(v, 0, 2, 1, 0, 1, v.entry(1, 1, 4), v.entry(0, 1, 4));
    }

    /** A branch that is shorter, forked, tampered with and refuted: the first case hides the others. */
    private static void firstCaseCounts() {
        ForkWatch w = Checks.service(2, 1, 50);
        w.write(0, 0, 1);
        w.write(0, 0, 2);
        w.fork(2);
        w.rewind(1, 2);
        w.write(1, 0, 5);
        w.corrupt(1, 1, 6);
        w.move(0, 1);
        Checks.due("rollback first", w.wouldFind(0), 1);
        w.move(1, 1);
        w.write(1, 0, 5);
        w.write(1, 0, 6);
        w.corrupt(1, 3, 7);
        w.post(0);
        Checks.due("fork before tampering", w.wouldFind(0), 2);
        Checks.dueThrows("fork", Checks.STATE, () -> w.read(0, 0));
        Checks.due("kind", w.blame(w.blames() - 1, 0), 2);
        Checks.due("no other client", w.blame(w.blames() - 1, 2), -1);
    }

    private static void fullBranch() {
        ForkWatch w = Checks.service(3, 1, 50);
        Checks.readOften(w, 0, 199);
        Checks.due("the last entry", w.write(0, 0, 9), 200);
        int posts = w.posts();
        Checks.dueThrows("a full branch", Checks.STATE, () -> w.write(0, 0, 1));
        Checks.dueThrows("a full branch to read", Checks.STATE, () -> w.read(1, 0));
        Checks.dueThrows("value before the full branch", Checks.ARGUMENT, () -> w.write(0, 0, -1));
        Checks.due("no suspicion", w.isSuspicious(0) || w.isSuspicious(1), false);
        Checks.due("no blame", w.blames(), 0);
        Checks.due("no post", w.posts(), posts);
        Checks.due("no history", w.receipt(1, 0), 0);
        Checks.due("nothing would be found", w.wouldFind(1), 0);
        Checks.due("length", w.length(0), 200);
        w.corrupt(0, 200, 8);
        Checks.dueThrows("tampering in a full branch", Checks.STATE, () -> w.read(1, 0));
        Checks.due("comes first", w.blames(), 1);
        Checks.due("position", w.blame(0, 3), 200);
        Checks.due("suspicion", w.isSuspicious(1), true);
        Checks.due("adopt 200", w.adopt(2), 200);
        Checks.due("vector of 200", w.vector(2, 0), 200);
        Checks.due("sign of 200", w.isSigned(2, 200, w.receipt(2, 1), w.receipt(2, 2)), true);
        lastPositionDiffers();
    }

    private static void lastPositionDiffers() {
        ForkWatch w = Checks.service(2, 1, 50);
        Checks.readOften(w, 0, 199);
        w.fork(2);
        w.read(0, 0);
        w.read(1, 0);
        Checks.due("common length", w.commonLength(0, 1), 199);
        Checks.due("forked at 200", w.exchange(0, 1), 3);
        dueBlame(w, 0, 2, 0, 1, 200, w.entry(0, 200, 4), w.entry(1, 200, 4));
        Checks.due("fork of a full branch", w.fork(2), 2);
        Checks.due("its last hash", w.entry(2, 200, 4), w.entry(1, 200, 4));
        w.move(0, 2);
        w.calm(0);
        Checks.dueThrows("found at 200", Checks.STATE, () -> w.read(0, 0));
        dueBlame(w, 1, 2, 0, -1, 200, w.entry(0, 200, 4), w.entry(2, 200, 4));
        Checks.due("rewind all", w.rewind(2, 200), 0);
    }

    private static void intervals() {
        ForkWatch w = Checks.service(3, 1, 3);
        w.read(0, 0);
        w.read(1, 0);
        w.read(0, 0);
        Checks.due("no post yet", w.posts(), 0);
        w.write(0, 0, 4);
        Checks.due("post by the third operation", w.posts(), 1);
        Checks.due("its client", w.boardPost(0, 0), 0);
        Checks.due("its position", w.boardPost(0, 1), 4);
        Checks.due("its hash", w.boardPost(0, 2), w.entry(0, 4, 4));
        w.rewind(0, 1);
        Checks.dueThrows("no operation", Checks.STATE, () -> w.read(0, 0));
        w.adopt(0);
        Checks.due("vector after the rewind", w.vector(0, 0), 2);
        w.read(0, 0);
        Checks.due("the fourth operation does not post", w.posts(), 1);
        w.adopt(0);
        Checks.dueThrows("the old post refutes the branch", Checks.STATE, () -> w.read(0, 0));
        ForkWatch v = Checks.service(2, 1, 1);
        v.read(0, 0);
        v.read(1, 0);
        Checks.due("interval 1", v.posts(), 2);
        // Forgotten entries are operations done all the same: the count of operations is not that of the vector.
        ForkWatch u = Checks.service(2, 1, 3);
        u.read(0, 0);
        u.read(0, 0);
        u.rewind(0, 2);
        u.adopt(0);
        u.read(0, 0);
        Checks.due("the third operation posts", u.posts(), 1);
        Checks.due("at position 1", u.boardPost(0, 1), 1);
    }

    private static void exchanging() {
        ForkWatch w = Checks.service(3, 2, 50);
        Checks.due("same start", w.exchange(0, 1), 0);
        w.write(0, 0, 1);
        Checks.due("second lower", w.exchange(0, 1), 2);
        Checks.due("first lower", w.exchange(1, 0), 1);
        w.fork(2);
        w.read(1, 0);
        w.read(1, 0);
        w.read(2, 1);
        Checks.due("not forked, lower", w.exchange(0, 1), 1);
        Checks.due("forked", w.exchange(1, 2), 3);
        dueBlame(w, 0, 2, 1, 2, 2, w.entry(1, 2, 4), w.entry(0, 2, 4));
        Checks.due("the first is suspicious", w.isSuspicious(1), true);
        Checks.due("the second is suspicious", w.isSuspicious(2), true);
        Checks.due("the third is not", w.isSuspicious(0), false);
        Checks.due("again, by suspicious ones", w.exchange(2, 1), 3);
        dueBlame(w, 1, 2, 2, 1, 2, w.entry(0, 2, 4), w.entry(1, 2, 4));
        Checks.due("a suspicious one that is not forked", w.exchange(1, 0), 2);
        Checks.dueThrows("same client", Checks.NO_SUCH, () -> w.exchange(1, 1));
        Checks.dueThrows("client 3", Checks.NO_SUCH, () -> w.exchange(3, 0));
        Checks.dueThrows("other 3", Checks.NO_SUCH, () -> w.exchange(0, 3));
        Checks.dueThrows("other -1", Checks.NO_SUCH, () -> w.exchange(0, -1));
        Checks.due("no more blames", w.blames(), 2);
        ForkWatch v = Checks.service(2, 1, 50);
        v.fork(1);
        v.read(0, 0);
        v.write(1, 0, 4);
        v.read(0, 0);
        v.read(0, 0);
        v.read(1, 0);
        Checks.due("forked at the first position", v.exchange(0, 1), 3);
        dueBlame(v, 0, 2, 0, 1, 1, v.entry(1, 1, 4), v.entry(0, 1, 4));
    }

    private static void posting() {
        ForkWatch w = Checks.service(3, 1, 50);
        Checks.due("post at the start", w.post(2), 1);
        w.write(1, 0, 3);
        w.fork(1);
        w.write(0, 0, 3);
        w.read(1, 0);
        w.exchange(0, 1);
        Checks.due("post of a suspicious client", w.post(0), 2);
        Checks.due("its hash", w.boardPost(1, 2), w.receipt(0, 1));
        Checks.due("still suspicious", w.isSuspicious(0), true);
        Checks.dueThrows("client 3", Checks.NO_SUCH, () -> w.post(3));
        Checks.dueThrows("client -1", Checks.NO_SUCH, () -> w.post(-1));
        Checks.due("posts", w.posts(), 2);
        Checks.run(w, "post 1;".repeat(37));
        Checks.due("40 posts", w.post(1), 40);
        Checks.due("40 posts at most", w.post(1), 40);
    }

    private static void calming() {
        ForkWatch w = Checks.service(2, 1, 50);
        Checks.due("was not suspicious", w.calm(0), false);
        w.write(0, 0, 1);
        w.rewind(0, 1);
        Checks.dueThrows("rollback", Checks.STATE, () -> w.read(0, 0));
        int hash = w.receipt(0, 1);
        Checks.due("was suspicious", w.calm(0), true);
        Checks.due("is not", w.isSuspicious(0), false);
        Checks.due("its history stays", w.receipt(0, 0), 1);
        Checks.due("its hash stays", w.receipt(0, 1), hash);
        Checks.due("its vector stays", w.vector(0, 0), 1);
        Checks.dueThrows("finds it again", Checks.STATE, () -> w.read(0, 0));
        Checks.due("a second blame", w.blames(), 2);
        Checks.dueThrows("client 2", Checks.NO_SUCH, () -> w.calm(2));
        Checks.dueThrows("client -1", Checks.NO_SUCH, () -> w.calm(-1));
    }

    private static void adopting() {
        ForkWatch w = Checks.service(3, 1, 50);
        w.write(0, 0, 1);
        w.write(0, 0, 2);
        w.read(1, 0);
        w.corrupt(0, 2, 5);
        Checks.due("adopt without verifying", w.adopt(2), 3);
        Checks.due("hash", w.receipt(2, 1), w.entry(0, 3, 4));
        Checks.due("vector", w.vector(2, 0) * 10 + w.vector(2, 1), 21);
        Checks.due("it goes on", w.read(2, 0), 5);
        w.rewind(0, 3);
        Checks.dueThrows("rollback", Checks.STATE, () -> w.read(1, 0));
        Checks.due("adopt a shorter one", w.adopt(1), 1);
        Checks.due("not suspicious", w.isSuspicious(1), false);
        Checks.due("vector of the shorter one", w.vector(1, 0) * 10 + w.vector(1, 1), 10);
        Checks.dueThrows("hashes are forgotten", Checks.NO_SUCH, () -> w.hashAt(1, 2));
        w.rewind(0, 1);
        Checks.due("adopt nothing", w.adopt(1), 0);
        Checks.due("hash of nothing", w.receipt(1, 1), 1);
        Checks.due("vector of nothing", w.vector(1, 0), 0);
        Checks.dueThrows("client 3", Checks.NO_SUCH, () -> w.adopt(3));
        Checks.dueThrows("client -1", Checks.NO_SUCH, () -> w.adopt(-1));
    }
}
