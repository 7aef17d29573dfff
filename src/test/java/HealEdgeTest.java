import java.io.IOException;

/** The boundary cases of section 3, WITNESS BOARD, and section 4, HEALING, sentence by sentence. */
public final class HealEdgeTest {
    public static void main(String[] args) throws IOException {
        Edges.open(args);
        Edges.edge("(seal of the post before it, 1 without one) * 1000003 + hash * 7919 + position * 17 + client, "
            + "modulo 2147483647", HealEdgeTest::seals);
        Edges.edge("At most 40 posts are kept, numbered from 0, the oldest one first; if there are more, the oldest "
            + "one is removed.", HealEdgeTest::fortyPosts);
        Edges.edge("(The seal of the post before it is used, even if that has been removed.)",
            HealEdgeTest::removedSeals);
        Edges.edge("The common length of two branches is the greatest n such that both have at least n entries and "
            + "the same hash at the position n (and at all positions before it).", HealEdgeTest::commonLengths);
        Edges.edge("The own entries of each are those behind it.", HealEdgeTest::ownEntries);
        Edges.edge("A block is in conflict if own entries of one of both branches write it, and own entries of the "
            + "other one read or write it.", HealEdgeTest::conflicts);
        Edges.edge("To heal branch y into branch x, if no block is in conflict, means to make a new branch",
            HealEdgeTest::newBranch);
        Edges.edge("all entries of x, as they are", HealEdgeTest::entriesOfX);
        Edges.edge("then a merge whose link is the hash at the last position of y (1 without entries)",
            HealEdgeTest::links);
        Edges.edge("then the own entries of y with new hashes", HealEdgeTest::ownEntriesOfY);
        Edges.edge("For each client that sees x or y", HealEdgeTest::whoIsHealed);
        Edges.edge("if its hash at its position p is that of the branch that it sees at p (which has at least p "
            + "entries), it is not suspicious any more", HealEdgeTest::whoIsCalm);
        Edges.edge("if it sees y and p is greater than the common length, its history becomes that of the new branch",
            HealEdgeTest::whoGetsTheHistory);
        Edges.edge("otherwise it stays as it is", HealEdgeTest::whoStays);
        Edges.edge("All these clients see the new branch then.", HealEdgeTest::whoSeesTheNewBranch);
        Checks.finish();
    }

    private static void seals() {
        ForkWatch w = Checks.service(6, 1, 50);
        w.post(5);
        long seal = 1000003 + 7919 + 5;
        Checks.due("without one before it", w.boardPost(0, 3), seal);
        Checks.readOften(w, 5, 200);
        // 200 operations made four posts.
        for (int index = 1; index <= 4; index++) {
            seal = Checks.seal(seal, 5, 50 * index, w.entry(0, 50 * index, 4));
            Checks.due("seal " + index, w.boardPost(index, 3), seal);
        }
        w.post(5);
        Checks.due("the same receipt again", w.boardPost(5, 3), Checks.seal(seal, 5, 200, w.receipt(5, 1)));
    }

    private static void fortyPosts() {
        ForkWatch w = Checks.service(4, 1, 50);
        w.post(1);
        w.post(2);
        Checks.due("39 posts", Checks.run(w, "post 0;".repeat(36)) + w.post(3), 36 + 39);
        Checks.due("40 posts", w.post(0), 40);
        Checks.due("the oldest one is number 0", w.boardPost(0, 0), 1);
        Checks.due("number 38", w.boardPost(38, 0), 3);
        Checks.due("40 posts still", w.post(2), 40);
        Checks.due("posts", w.posts(), 40);
        Checks.due("the oldest one is removed", w.boardPost(0, 0), 2);
        Checks.due("the others are one less", w.boardPost(37, 0), 3);
        Checks.due("the newest one", w.boardPost(39, 0), 2);
        Checks.dueThrows("no post 40", Checks.NO_SUCH, () -> w.boardPost(40, 0));
        ForkWatch v = Checks.service(2, 1, 50);
        v.read(0, 0);
        v.post(0);
        v.rewind(0, 1);
        v.read(1, 0);
        Checks.run(v, "post 1;".repeat(39));
        Checks.due("the oldest of 40 still refutes", v.wouldFind(1), 4);
        v.post(1);
        Checks.due("a removed one does not", v.wouldFind(1), 0);
    }

    private static void removedSeals() {
        ForkWatch w = Checks.service(2, 1, 50);
        long seal = 1;
        long oldest = 0;
        for (int post = 1; post <= 45; post++) {
            seal = Checks.seal(seal, 1, 0, 1);
            oldest = post == 6 ? seal : oldest;
            w.post(1);
            Checks.due("the newest seal", w.boardPost(w.posts() - 1, 3), seal);
        }
        Checks.due("the oldest one keeps its seal", w.boardPost(0, 3), oldest);
    }

    private static void commonLengths() {
        ForkWatch w = Checks.service(2, 2, 50);
        w.fork(2);
        Checks.due("both empty", w.commonLength(0, 1), 0);
        w.read(0, 0);
        Checks.due("one empty", w.commonLength(0, 1), 0);
        w.move(1, 0);
        w.fork(2);
        Checks.due("both the same", w.commonLength(0, 2), 1);
        w.read(1, 0);
        Checks.due("one goes on", w.commonLength(0, 2) * 10 + w.commonLength(2, 0), 11);
        w.write(0, 0, 3);
        Checks.due("both go on", w.commonLength(0, 2), 1);
        w.write(0, 0, 3);
        w.write(1, 0, 3);
        Checks.due("further on", w.commonLength(0, 2), 1);
        Checks.due("with itself", w.commonLength(0, 0), 3);
        int[] values = Checks.collidingWrites();
        ForkWatch v = Checks.service(2, 2, 50);
        v.fork(2);
        v.write(0, 0, values[0]);
        v.write(1, 0, values[1]);
        v.write(0, 1, values[2]);
        v.write(1, 1, values[3]);
        Checks.due("the same hash at 2", v.entry(0, 2, 4), v.entry(1, 2, 4));
        Checks.due("is not enough", v.commonLength(0, 1), 0);
        ForkWatch u = Checks.service(2, 1, 50);
        Checks.readOften(u, 0, 200);
        u.fork(2);
        Checks.due("at most 200", u.commonLength(0, 1), 200);
        Checks.due("full ones have nothing of their own", u.conflicts(0, 1), 0);
        u.rewind(1, 1);
        u.read(1, 0);
        Checks.due("full ones that are different at 200", u.commonLength(0, 1), 199);
    }

    private static void ownEntries() {
        ForkWatch w = Checks.service(2, 3, 50);
        w.write(0, 0, 1);
        w.write(1, 1, 1);
        w.fork(2);
        w.write(0, 2, 1);
        w.read(1, 0);
        w.read(1, 1);
        Checks.due("common entries conflict with nothing", w.conflicts(0, 1), 0);
        w.read(1, 2);
        Checks.due("the first own entry does", w.conflicts(0, 1), 4);
        ForkWatch v = Checks.service(2, 1, 50);
        v.write(0, 0, 1);
        v.fork(2);
        v.rewind(1, 1);
        v.read(0, 0);
        Checks.due("one has own entries alone", v.conflicts(0, 1), 0);
        v.adopt(1);
        v.read(1, 0);
        Checks.due("a rewound entry is an own one of the other", v.conflicts(0, 1), 1);
    }

    private static int conflictsOf(String script) {
        ForkWatch w = Checks.service(2, 16, 50);
        w.fork(2);
        Checks.run(w, script);
        Checks.due("none refused", w.refused(), 0);
        Checks.due("turned round", w.conflicts(1, 0), w.conflicts(0, 1));
        return w.conflicts(0, 1);
    }

    private static void conflicts() {
        Checks.due("nothing", conflictsOf(""), 0);
        Checks.due("write and write", conflictsOf("0 writes 0 1;1 writes 0 1;"), 1);
        Checks.due("write and read", conflictsOf("0 writes 0 1;1 reads 0;"), 1);
        Checks.due("read and write", conflictsOf("0 reads 0;1 writes 0 1;"), 1);
        Checks.due("read and read", conflictsOf("0 reads 0;1 reads 0;"), 0);
        Checks.due("write and nothing", conflictsOf("0 writes 0 1;0 reads 0;0 writes 0 2;"), 0);
        Checks.due("other blocks", conflictsOf("0 writes 0 1;1 writes 1 1;0 reads 2;1 reads 3;"), 0);
        Checks.due("the last block", conflictsOf("0 writes 15 1;1 reads 15;"), 1 << 15);
        StringBuilder all = new StringBuilder();
        for (int block = 0; block < 16; block++) {
            all.append("0 writes ").append(block).append(" 1;1 reads ").append(block).append(";");
        }
        Checks.due("all blocks", conflictsOf(all.toString()), 65535);
        // A merge has the block -1: it writes nothing, and no block 31 or 15 either.
        ForkWatch w = Checks.service(3, 16, 50);
        w.fork(2);
        w.read(0, 0);
        w.fork(4);
        w.heal(0, 1);
        w.write(2, 15, 4);
        Checks.due("a merge", w.conflicts(3, 2), 0);
    }

    /** Branch 0 with a write of block 0, and branch 1 with a read of block 1, behind one common entry. */
    private static ForkWatch apart() {
        ForkWatch w = Checks.service(4, 3, 50);
        w.write(2, 2, 9);
        w.fork(0b1010);
        w.write(0, 0, 5);
        w.read(1, 1);
        return w;
    }

    private static void newBranch() {
        ForkWatch w = apart();
        Checks.due("a new branch", w.heal(0, 1), 2);
        Checks.due("branches", w.branches(), 3);
        Checks.due("its length", w.length(2), 4);
        Checks.due("the old ones stay", w.length(0) * 10 + w.length(1), 22);
        ForkWatch v = apart();
        v.read(1, 0);
        Checks.dueThrows("a conflict", Checks.STATE, () -> v.heal(0, 1));
        Checks.dueThrows("a conflict the other way", Checks.STATE, () -> v.heal(1, 0));
        Checks.due("none made", v.branches(), 2);
        ForkWatch u = apart();
        u.read(0, 1);
        Checks.due("a block that both only read", u.heal(1, 0), 2);
        Checks.due("its length", u.length(2), 5);
        ForkWatch t = Checks.service(2, 1, 50);
        t.fork(1);
        Checks.due("two empty branches", t.heal(0, 1), 2);
        Checks.due("a merge alone", t.length(2), 1);
    }

    private static void entriesOfX() {
        ForkWatch w = apart();
        w.corrupt(0, 1, 8);
        w.corrupt(0, 2, 4);
        w.heal(0, 1);
        for (int at = 1; at <= 2; at++) {
            for (int what = 0; what <= 6; what++) {
                Checks.due("part " + what + " of " + at, w.entry(2, at, what), w.entry(0, at, what));
            }
        }
        Checks.due("wrong hashes stay wrong", w.entry(2, 1, 6) + w.entry(2, 2, 6), 0);
        Checks.due("the merge is right", w.entry(2, 3, 6), 1);
        w.heal(2, 0);
        for (int what = 0; what <= 6; what++) {
            Checks.due("part " + what + " of a merge", w.entry(3, 3, what), w.entry(2, 3, what));
        }
    }

    private static void links() {
        ForkWatch w = apart();
        w.heal(0, 1);
        Checks.due("kind", w.entry(2, 3, 0), 2);
        Checks.due("the last hash of y", w.entry(2, 3, 5), w.entry(1, 2, 4));
        Checks.due("its hash", w.entry(2, 3, 4), Checks.mergeHash(w.entry(0, 2, 4), w.entry(1, 2, 4), 3));
        ForkWatch v = Checks.service(2, 1, 50);
        v.fork(2);
        v.read(0, 0);
        v.heal(0, 1);
        Checks.due("y without entries", v.entry(2, 2, 5), 1);
        v.heal(1, 0);
        Checks.due("x without entries", v.entry(3, 1, 5), v.entry(0, 1, 4));
        Checks.due("its hash", v.entry(3, 1, 4), Checks.mergeHash(1, v.entry(0, 1, 4), 1));
    }

    private static void ownEntriesOfY() {
        ForkWatch w = apart();
        w.write(1, 1, 6);
        w.heal(0, 1);
        Checks.due("length", w.length(2), 5);
        Checks.due("the first own one", w.entry(2, 4, 4), Checks.readHash(w.entry(2, 3, 4), 1, 1, 4));
        Checks.due("the second own one", w.entry(2, 5, 4), Checks.writeHash(w.entry(2, 4, 4), 1, 1, 6, 5));
        for (int what = 0; what <= 3; what++) {
            Checks.due("part " + what, w.entry(2, 5, what), w.entry(1, 3, what));
        }
        ForkWatch v = Checks.service(2, 1, 50);
        v.read(0, 0);
        v.fork(2);
        v.read(0, 0);
        v.heal(0, 1);
        Checks.due("none: the merge is the last", v.length(2) * 10 + v.entry(2, 3, 0), 32);
        v.heal(1, 2);
        Checks.due("a merge among them keeps its link", v.entry(3, 4, 5), v.entry(2, 3, 5));
        Checks.due("and gets a new hash", v.entry(3, 4, 4), Checks.mergeHash(v.entry(3, 3, 4), v.entry(2, 3, 5), 4));
    }

    private static void whoIsHealed() {
        ForkWatch w = apart();
        w.fork(0b1000);
        w.exchange(0, 1);
        w.write(3, 1, 3);
        w.exchange(3, 0);
        Checks.due("suspicious", w.isSuspicious(0) && w.isSuspicious(1) && w.isSuspicious(3), true);
        int hash = w.receipt(3, 1);
        w.heal(0, 1);
        Checks.due("the one that sees x", w.isSuspicious(0), false);
        Checks.due("the one that sees y", w.isSuspicious(1), false);
        Checks.due("the one that sees neither", w.isSuspicious(3), true);
        Checks.due("its branch", w.branchOf(3), 2);
        Checks.due("its hash", w.receipt(3, 1), hash);
    }

    private static void whoIsCalm() {
        ForkWatch w = apart();
        w.exchange(0, 1);
        w.read(3, 1);
        w.rewind(1, 1);
        w.exchange(0, 3);
        w.move(2, 1);
        // 1 is at the last position of y, 3 is one behind it.
        Checks.due("p of 1 and 3, length of y", w.receipt(1, 0) * 100 + w.receipt(3, 0) * 10 + w.length(1), 232);
        w.heal(0, 1);
        Checks.due("at the last position", w.isSuspicious(1), false);
        Checks.due("one behind it", w.isSuspicious(3), true);
        ForkWatch v = apart();
        v.exchange(0, 1);
        v.move(0, 1);
        v.move(1, 0);
        v.heal(0, 1);
        Checks.due("another hash in y", v.isSuspicious(0), true);
        Checks.due("another hash in x", v.isSuspicious(1), true);
        ForkWatch u = apart();
        u.exchange(0, 1);
        u.rewind(0, 2);
        u.heal(1, 0);
        Checks.due("x or y without entries", u.isSuspicious(0), true);
        Checks.due("the other branch", u.isSuspicious(1), false);
    }

    private static void whoGetsTheHistory() {
        ForkWatch w = apart();
        w.read(3, 1);
        // 2 is at the common length, 1 one behind it, 3 at the end of y.
        w.move(2, 1);
        w.heal(0, 1);
        Checks.due("sees y, p is the common length", w.receipt(2, 0), 1);
        Checks.due("sees y, p is one more", w.receipt(1, 0), 5);
        Checks.due("sees y, p is its length", w.receipt(3, 0), 5);
        Checks.due("sees x, p is more than the common length", w.receipt(0, 0), 2);
        for (int at = 0; at <= 5; at++) {
            Checks.due("hash at " + at, w.hashAt(1, at), at == 0 ? 1 : w.entry(2, at, 4));
        }
        Checks.due("vector", w.vector(1, 0) * 1000 + w.vector(1, 1) * 100 + w.vector(1, 2) * 10 + w.vector(1, 3), 1111);
        Checks.due("nothing to find", w.wouldFind(0) + w.wouldFind(1) + w.wouldFind(2) + w.wouldFind(3), 0);
        ForkWatch v = Checks.service(2, 1, 50);
        v.fork(2);
        v.read(0, 0);
        v.heal(0, 1);
        Checks.due("sees y, p and the common length are 0", v.receipt(1, 0), 0);
        v.fork(2);
        v.heal(1, 0);
        Checks.due("nobody sees them any more", v.branchOf(0) * 10 + v.branchOf(1), 23);
    }

    private static void whoStays() {
        ForkWatch w = apart();
        w.move(0, 1);
        w.move(1, 0);
        int zero = w.receipt(0, 1);
        int one = w.receipt(1, 1);
        w.heal(0, 1);
        Checks.due("another hash in y: position", w.receipt(0, 0), 2);
        Checks.due("another hash in y: hash", w.receipt(0, 1), zero);
        Checks.due("another hash in y: vector", w.vector(0, 0) * 10 + w.vector(0, 1), 10);
        Checks.due("another hash in x: hash", w.receipt(1, 1), one);
        Checks.due("not made suspicious", w.isSuspicious(0) || w.isSuspicious(1), false);
        ForkWatch v = apart();
        v.read(3, 1);
        v.rewind(1, 1);
        v.heal(0, 1);
        Checks.due("more than the entries of y: position", v.receipt(3, 0), 3);
        Checks.due("more than the entries of y: vector", v.vector(3, 3), 1);
        Checks.due("no record", v.blames(), 0);
    }

    private static void whoSeesTheNewBranch() {
        ForkWatch w = apart();
        w.read(3, 1);
        w.rewind(1, 1);
        w.exchange(0, 3);
        w.fork(0b100);
        w.heal(1, 0);
        Checks.due("one that fits x", w.branchOf(1), 3);
        Checks.due("one that fits y", w.branchOf(0), 3);
        Checks.due("one that stays as it is", w.branchOf(3), 3);
        Checks.due("one that saw another branch", w.branchOf(2), 2);
        ForkWatch v = Checks.service(6, 1, 50);
        v.fork(0b111000);
        v.heal(0, 1);
        for (int client = 0; client < 6; client++) {
            Checks.due("each of six", v.branchOf(client), 2);
        }
    }
}
