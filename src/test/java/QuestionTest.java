/** Promises 19 to 27: clients, blocks, branches, length, entry, value, branchOf, commonLength, conflicts. */
public final class QuestionTest {
    public static void main(String[] args) {
        counts();
        entries();
        values();
        commonLengths();
        collision();
        conflictSets();
        Checks.finish();
    }

    private static void counts() {
        for (int clients = 2; clients <= 6; clients++) {
            ForkWatch w = Checks.service(clients, 3 * clients - 5, 1);
            int last = clients - 1;
            Checks.due("clients", w.clients(), clients);
            Checks.due("blocks", w.blocks(), 3 * clients - 5);
            Checks.due("branches", w.branches(), 1);
            Checks.due("branch of the last", w.branchOf(last), 0);
            Checks.dueThrows("branch of one more", Checks.NO_SUCH, () -> w.branchOf(last + 1));
            Checks.dueThrows("branch of -1", Checks.NO_SUCH, () -> w.branchOf(-1));
            Checks.due("length", w.length(0), 0);
            Checks.dueThrows("length of 1", Checks.NO_SUCH, () -> w.length(1));
            Checks.dueThrows("length of -1", Checks.NO_SUCH, () -> w.length(-1));
            w.fork(1 << last);
            Checks.due("branches then", w.branches(), 2);
            Checks.due("branch of the last then", w.branchOf(last), 1);
            w.read(last, 0);
            Checks.due("length of 1", w.length(1) * 10 + w.length(0), 10);
        }
        Checks.due("one block", Checks.service(2, 1, 1).blocks(), 1);
        Checks.due("16 blocks", Checks.service(2, 16, 1).blocks(), 16);
    }

    private static void entries() {
        ForkWatch w = Checks.service(3, 5, 50);
        w.write(2, 4, 77);
        w.read(1, 3);
        int write = (int) Checks.writeHash(1, 2, 4, 77, 1);
        int[][] due = {{1, 2, 4, 77, write, 0, 1}, {0, 1, 3, 0, (int) Checks.readHash(write, 1, 3, 2), 0, 1}};
        for (int at = 1; at <= 2; at++) {
            for (int what = 0; what <= 6; what++) {
                Checks.due("part " + what + " of " + at, w.entry(0, at, what), due[at - 1][what]);
            }
        }
        Checks.dueThrows("what 7", Checks.ARGUMENT, () -> w.entry(0, 1, 7));
        Checks.dueThrows("what -1", Checks.ARGUMENT, () -> w.entry(0, 1, -1));
        Checks.dueThrows("position 0", Checks.NO_SUCH, () -> w.entry(0, 0, 0));
        Checks.dueThrows("position 3, what 7", Checks.NO_SUCH, () -> w.entry(0, 3, 7));
        Checks.dueThrows("position -1", Checks.NO_SUCH, () -> w.entry(0, -1, 0));
        Checks.dueThrows("branch 1, what 7", Checks.NO_SUCH, () -> w.entry(1, 1, 7));
        Checks.dueThrows("branch -1", Checks.NO_SUCH, () -> w.entry(-1, 1, 0));
    }

    private static void values() {
        ForkWatch w = Checks.service(2, 2, 50);
        Checks.due("no write", w.value(0, 1), 0);
        w.write(0, 1, 4);
        w.write(1, 1, 5);
        w.write(0, 0, 6);
        w.read(0, 1);
        Checks.due("last write", w.value(0, 1), 5);
        Checks.due("other block", w.value(0, 0), 6);
        w.fork(1);
        w.rewind(1, 3);
        Checks.due("last write of the other branch", w.value(1, 1), 4);
        Checks.dueThrows("branch 2", Checks.NO_SUCH, () -> w.value(2, 0));
        Checks.dueThrows("branch -1", Checks.NO_SUCH, () -> w.value(-1, 0));
        Checks.dueThrows("block 2", Checks.NO_SUCH, () -> w.value(0, 2));
        Checks.dueThrows("block -1", Checks.NO_SUCH, () -> w.value(0, -1));
    }

    private static void commonLengths() {
        ForkWatch w = Checks.service(2, 2, 50);
        Checks.due("with itself, empty", w.commonLength(0, 0), 0);
        w.read(0, 0);
        w.read(0, 1);
        w.fork(2);
        Checks.due("equal", w.commonLength(0, 1), 2);
        w.read(0, 1);
        Checks.due("one longer", w.commonLength(0, 1), 2);
        Checks.due("turned", w.commonLength(1, 0), 2);
        Checks.due("with itself", w.commonLength(0, 0), 3);
        w.write(1, 1, 0);
        w.read(1, 0);
        Checks.due("forked", w.commonLength(0, 1), 2);
        w.rewind(1, 3);
        Checks.due("rewound", w.commonLength(0, 1), 1);
        w.rewind(1, 1);
        Checks.due("empty", w.commonLength(0, 1), 0);
        Checks.dueThrows("branch 2", Checks.NO_SUCH, () -> w.commonLength(0, 2));
        Checks.dueThrows("branch -1", Checks.NO_SUCH, () -> w.commonLength(-1, 0));
    }

    /** Two branches that are different at one position and have the same hash at the next. */
    private static void collision() {
        int[] found = Checks.collidingWrites();
        ForkWatch w = Checks.service(3, 2, 50);
        w.fork(2);
        w.write(0, 0, found[0]);
        w.write(1, 0, found[1]);
        w.write(0, 1, found[2]);
        w.write(1, 1, found[3]);
        Checks.due("same hash at 2", w.receipt(0, 1), w.receipt(1, 1));
        Checks.due("common length", w.commonLength(0, 1), 0);
        Checks.due("own entries begin at 1", w.conflicts(0, 1), 3);
        Checks.due("not forked by the hash at 2", w.forkedPairs(), 0);
        Checks.due("exchange", w.exchange(0, 1), 0);
        Checks.due("wouldFind", w.wouldFind(0), 0);
        w.move(0, 1);
        Checks.due("the other branch fits", w.read(0, 1), found[3]);
        w.fork(1);
        w.rewind(0, 2);
        w.move(2, 0);
        w.read(2, 0);
        w.read(2, 1);
        w.read(2, 1);
        Checks.due("forked at the first position", w.exchange(0, 2), 3);
        Checks.due("least position", w.blame(0, 3), 1);
    }

    private static void conflictSets() {
        Checks.due("reads only", conflictsOf("0 reads 0;", "1 reads 0;"), 0);
        Checks.due("write and read", conflictsOf("0 writes 0 1;", "1 reads 0;"), 1);
        Checks.due("read and write", conflictsOf("0 reads 2;", "1 writes 2 1;"), 4);
        Checks.due("write and write", conflictsOf("0 writes 15 1;", "1 writes 15 1;"), 32768);
        Checks.due("other blocks", conflictsOf("0 writes 0 1;0 reads 1;", "1 writes 2 1;1 reads 1;"), 0);
        Checks.due("one side only", conflictsOf("0 writes 0 1;0 reads 0;", ""), 0);
        Checks.due("several", conflictsOf("0 writes 0 1;0 writes 3 1;0 reads 5;0 reads 6;",
            "1 reads 0;1 writes 3 4;1 writes 5 1;1 reads 6;"), 1 + 8 + 32);
        ForkWatch w = Checks.service(2, 2, 50);
        w.write(0, 0, 3);
        Checks.due("with itself", w.conflicts(0, 0), 0);
        w.fork(1);
        Checks.dueThrows("branch 2", Checks.NO_SUCH, () -> w.conflicts(0, 2));
        Checks.dueThrows("branch -1", Checks.NO_SUCH, () -> w.conflicts(-1, 0));
        w.read(0, 1);
        w.read(1, 1);
        w.heal(0, 1);
        w.fork(2);
        w.rewind(3, 3);
        w.adopt(1);
        w.write(1, 1, 4);
        Checks.due("a merge is of no block", w.conflicts(2, 3), 2);
        w.rewind(3, 1);
        Checks.due("no conflict with none", w.conflicts(2, 3), 0);
    }

    /** All begin behind a common entry that counts for nothing. */
    private static int conflictsOf(String first, String second) {
        ForkWatch w = Checks.service(2, 16, 50);
        Checks.run(w, "0 writes 0 9;0 writes 1 9;1 reads 2;");
        w.fork(2);
        Checks.run(w, first + second);
        Checks.due("none refused", w.refused(), 0);
        Checks.due("symmetric", w.conflicts(0, 1), w.conflicts(1, 0));
        return w.conflicts(1, 0);
    }
}
