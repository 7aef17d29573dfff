/** Promises 14 to 18: fork, move, rewind, corrupt, heal. */
public final class ServiceTest {
    public static void main(String[] args) {
        forking();
        moving();
        rewinding();
        corrupting();
        healing();
        healedClients();
        healedMerges();
        healedUnsoundEntries();
        healingRefused();
        healingToTheLimit();
        Checks.finish();
    }

    private static void dueSameEntries(ForkWatch w, int one, int two, int count) {
        for (int at = 1; at <= count; at++) {
            for (int what = 0; what <= 6; what++) {
                Checks.due("part " + what + " of entry " + at, w.entry(two, at, what), w.entry(one, at, what));
            }
        }
    }

    private static void forking() {
        ForkWatch w = Checks.service(4, 2, 50);
        w.write(0, 1, 6);
        w.read(1, 1);
        w.write(2, 0, 7);
        w.corrupt(0, 3, 8);
        Checks.due("fork", w.fork(0b1010), 1);
        Checks.due("branches", w.branches(), 2);
        Checks.due("length", w.length(1), 3);
        dueSameEntries(w, 0, 1, 3);
        int seen = w.branchOf(0) * 1000 + w.branchOf(1) * 100 + w.branchOf(2) * 10 + w.branchOf(3);
        Checks.due("who sees it", seen, 101);
        w.corrupt(0, 3, 7);
        Checks.due("the branches are apart", w.entry(1, 3, 3), 8);
        w.rewind(0, 1);
        Checks.due("in their lengths too", w.length(1), 3);
        Checks.dueThrows("empty set", Checks.ARGUMENT, () -> w.fork(0));
        Checks.dueThrows("client 4", Checks.ARGUMENT, () -> w.fork(16));
        Checks.dueThrows("client 4 beside others of two branches", Checks.ARGUMENT, () -> w.fork(19));
        Checks.dueThrows("client 31", Checks.ARGUMENT, () -> w.fork(Integer.MIN_VALUE));
        Checks.dueThrows("client 31 beside 0", Checks.ARGUMENT, () -> w.fork(Integer.MIN_VALUE + 1));
        Checks.dueThrows("all bits", Checks.ARGUMENT, () -> w.fork(-1));
        Checks.dueThrows("two branches", Checks.STATE, () -> w.fork(3));
        Checks.dueThrows("two branches, the last one apart", Checks.STATE, () -> w.fork(0b1101));
        Checks.due("nothing made", w.branches(), 2);
        for (int made = 2; made < 8; made++) {
            Checks.due("fork " + made, w.fork(2), made);
        }
        Checks.dueThrows("8 branches", Checks.STATE, () -> w.fork(2));
        Checks.dueThrows("argument before 8 branches", Checks.ARGUMENT, () -> w.fork(0));
        Checks.due("the last branch is seen", w.branchOf(1), 7);
        Checks.due("8 branches at most", w.branches(), 8);
        Checks.due("entries of the last one", w.entry(7, 3, 3), 8);
    }

    private static void moving() {
        ForkWatch w = Checks.service(2, 1, 50);
        w.fork(2);
        w.read(0, 0);
        Checks.due("move", w.move(0, 1), 0);
        Checks.due("sees it", w.branchOf(0), 1);
        Checks.due("its history stays", w.receipt(0, 0), 1);
        Checks.due("move to the same", w.move(0, 1), 1);
        Checks.due("back", w.move(0, 0), 1);
        Checks.dueThrows("client 2", Checks.NO_SUCH, () -> w.move(2, 0));
        Checks.dueThrows("client -1", Checks.NO_SUCH, () -> w.move(-1, 0));
        Checks.dueThrows("branch 2", Checks.NO_SUCH, () -> w.move(0, 2));
        Checks.dueThrows("branch 8", Checks.NO_SUCH, () -> w.move(0, 8));
        Checks.dueThrows("branch -1", Checks.NO_SUCH, () -> w.move(0, -1));
        Checks.due("still there", w.branchOf(0), 0);
    }

    private static void rewinding() {
        ForkWatch w = Checks.service(2, 1, 50);
        Checks.dueThrows("an empty branch", Checks.ARGUMENT, () -> w.rewind(0, 1));
        Checks.readOften(w, 0, 4);
        w.write(0, 0, 3);
        Checks.dueThrows("0", Checks.ARGUMENT, () -> w.rewind(0, 0));
        Checks.dueThrows("-1", Checks.ARGUMENT, () -> w.rewind(0, -1));
        Checks.dueThrows("6", Checks.ARGUMENT, () -> w.rewind(0, 6));
        Checks.dueThrows("max", Checks.ARGUMENT, () -> w.rewind(0, Integer.MAX_VALUE));
        Checks.dueThrows("branch 1", Checks.NO_SUCH, () -> w.rewind(1, 0));
        Checks.dueThrows("branch -1", Checks.NO_SUCH, () -> w.rewind(-1, 1));
        Checks.due("length", w.length(0), 5);
        Checks.due("one", w.rewind(0, 1), 4);
        Checks.due("value without the write", w.value(0, 0), 0);
        Checks.dueThrows("entry is gone", Checks.NO_SUCH, () -> w.entry(0, 5, 0));
        Checks.due("clients stay", w.receipt(0, 0), 5);
        Checks.due("all", w.rewind(0, 4), 0);
        Checks.due("branches stay", w.branches(), 1);
        Checks.due("a new first entry", w.read(1, 0), 0);
        Checks.due("its hash", w.entry(0, 1, 4), Checks.readHash(1, 1, 0, 1));
    }

    private static void corrupting() {
        ForkWatch w = Checks.service(2, 2, 50);
        w.write(0, 0, 5);
        w.read(0, 0);
        w.write(1, 1, 6);
        int first = w.entry(0, 1, 4);
        int third = w.entry(0, 3, 4);
        Checks.due("corrupt", w.corrupt(0, 1, 999999), 5);
        Checks.due("value", w.value(0, 0), 999999);
        Checks.due("hash stays", w.entry(0, 1, 4), first);
        Checks.due("later hash stays", w.entry(0, 3, 4), third);
        Checks.due("not the one computed", w.entry(0, 1, 6), 0);
        Checks.due("the later one is", w.entry(0, 2, 6) + w.entry(0, 3, 6), 2);
        Checks.due("corrupt again", w.corrupt(0, 1, 0), 999999);
        Checks.due("and back", w.corrupt(0, 1, 5), 0);
        Checks.due("the one computed again", w.entry(0, 1, 6), 1);
        Checks.dueThrows("a read", Checks.STATE, () -> w.corrupt(0, 2, 1));
        Checks.dueThrows("value before the kind", Checks.ARGUMENT, () -> w.corrupt(0, 2, -1));
        Checks.dueThrows("value 1000000", Checks.ARGUMENT, () -> w.corrupt(0, 1, 1000000));
        Checks.dueThrows("position 0", Checks.NO_SUCH, () -> w.corrupt(0, 0, 1));
        Checks.dueThrows("position -1", Checks.NO_SUCH, () -> w.corrupt(0, -1, 1));
        Checks.dueThrows("position 4", Checks.NO_SUCH, () -> w.corrupt(0, 4, -1));
        Checks.dueThrows("position 201", Checks.NO_SUCH, () -> w.corrupt(0, 201, 1));
        Checks.dueThrows("branch 1", Checks.NO_SUCH, () -> w.corrupt(1, 1, 1));
        Checks.dueThrows("branch -1", Checks.NO_SUCH, () -> w.corrupt(-1, 1, 1));
        Checks.due("nothing changed", w.entry(0, 1, 3) * 10 + w.entry(0, 3, 3), 56);
        w.fork(2);
        w.read(0, 0);
        w.read(1, 1);
        w.heal(0, 1);
        Checks.dueThrows("a merge", Checks.STATE, () -> w.corrupt(2, 5, 1));
    }

    private static void healing() {
        ForkWatch w = Checks.service(3, 4, 50);
        w.write(0, 0, 5);
        w.fork(2);
        w.write(0, 1, 6);
        w.read(0, 0);
        w.write(1, 2, 7);
        w.read(1, 0);
        w.write(1, 3, 8);
        Checks.due("heal", w.heal(0, 1), 2);
        Checks.due("branches", w.branches(), 3);
        Checks.due("length", w.length(2), 7);
        dueSameEntries(w, 0, 2, 3);
        long link = w.entry(1, 4, 4);
        long hash = Checks.mergeHash(w.entry(0, 3, 4), link, 4);
        int[] merge = {2, -1, -1, 0, (int) hash, (int) link, 1};
        for (int what = 0; what <= 6; what++) {
            Checks.due("part " + what + " of the merge", w.entry(2, 4, what), merge[what]);
        }
        hash = Checks.writeHash(hash, 1, 2, 7, 5);
        Checks.due("first own entry", w.entry(2, 5, 4), hash);
        hash = Checks.readHash(hash, 1, 0, 6);
        Checks.due("second own entry", w.entry(2, 6, 4), hash);
        hash = Checks.writeHash(hash, 1, 3, 8, 7);
        Checks.due("third own entry", w.entry(2, 7, 4), hash);
        Checks.due("values", w.value(2, 0) * 1000 + w.value(2, 1) * 100 + w.value(2, 2) * 10 + w.value(2, 3), 5678);
        Checks.due("old branches stay", w.length(0) * 10 + w.length(1), 34);
        ForkWatch v = Checks.service(2, 1, 50);
        v.fork(2);
        v.write(0, 0, 3);
        Checks.due("heal an empty branch", v.heal(0, 1), 2);
        Checks.due("its link", v.entry(2, 2, 5), 1);
        Checks.due("hash of the merge", v.entry(2, 2, 4), Checks.mergeHash(v.entry(0, 1, 4), 1, 2));
        Checks.due("heal into an empty branch", v.heal(1, 0), 3);
        Checks.due("merge first", v.entry(3, 1, 4), Checks.mergeHash(1, v.entry(0, 1, 4), 1));
        Checks.due("then the entry", v.entry(3, 2, 4), Checks.writeHash(v.entry(3, 1, 4), 0, 0, 3, 2));
    }

    private static void healedClients() {
        ForkWatch w = Checks.service(6, 6, 50);
        w.read(2, 0);
        w.fork(0b101110);
        // 0 and 4 see branch 0; 1, 2, 3 and 5 see branch 1. 2 is at the common length, 4 behind nothing.
        w.write(0, 1, 1);
        w.write(1, 2, 2);
        w.write(3, 2, 3);
        w.write(1, 2, 4);
        w.exchange(0, 3);
        w.move(5, 0);
        w.write(5, 1, 9);
        w.exchange(5, 1);
        w.move(5, 1);
        for (int client : new int[] {0, 1, 3, 5}) {
            Checks.due(client + " is suspicious", w.isSuspicious(client), true);
        }
        int old = w.receipt(5, 1);
        Checks.due("heal", w.heal(0, 1), 2);
        for (int client = 0; client < 6; client++) {
            Checks.due(client + " sees the new branch", w.branchOf(client), 2);
        }
        Checks.due("0 stays at its place", w.receipt(0, 0), 2);
        Checks.due("0 is calm", w.isSuspicious(0), false);
        Checks.due("1 has the new history", w.receipt(1, 0), 7);
        Checks.due("1 has the new hash", w.receipt(1, 1), w.entry(2, 7, 4));
        Checks.due("1 has an old hash of x", w.hashAt(1, 2), w.entry(0, 2, 4));
        int[] counts = {1, 2, 1, 1, 0, 1};
        for (int client = 0; client < 6; client++) {
            Checks.due("1 counts entries of " + client, w.vector(1, client), counts[client]);
        }
        Checks.due("1 is calm", w.isSuspicious(1), false);
        Checks.due("2 stays at the common length", w.receipt(2, 0), 1);
        Checks.due("3 has the new history from the middle of y", w.receipt(3, 0), 7);
        Checks.due("3 is calm", w.isSuspicious(3), false);
        Checks.due("4 stays at the start", w.receipt(4, 0), 0);
        Checks.due("5 is not of the branch it saw: it keeps its place", w.receipt(5, 0), 3);
        Checks.due("5 keeps its hash", w.receipt(5, 1), old);
        Checks.due("5 is still suspicious", w.isSuspicious(5), true);
        ForkWatch v = Checks.service(3, 2, 50);
        v.write(0, 0, 1);
        v.write(0, 0, 2);
        v.fork(2);
        v.fork(4);
        v.rewind(0, 1);
        v.read(1, 1);
        Checks.dueThrows("rolled back", Checks.STATE, () -> v.read(0, 0));
        Checks.due("heal the rewound branch", v.heal(1, 0), 3);
        Checks.due("0 stays, since its branch was too short", v.receipt(0, 0), 2);
        Checks.due("0 stays suspicious", v.isSuspicious(0), true);
        Checks.due("0 sees the new one", v.branchOf(0), 3);
        Checks.due("2 saw neither", v.branchOf(2), 2);
    }

    /** A merge among the own entries keeps its link. */
    private static void healedMerges() {
        ForkWatch w = Checks.service(3, 3, 50);
        w.fork(2);
        w.fork(4);
        w.write(0, 0, 1);
        w.write(1, 1, 2);
        w.write(2, 2, 3);
        w.heal(0, 1);
        Checks.due("common length", w.commonLength(2, 3), 0);
        Checks.due("heal the healed one", w.heal(2, 3), 4);
        Checks.due("length", w.length(4), 5);
        Checks.due("link of the new merge", w.entry(4, 2, 5), w.entry(3, 3, 4));
        Checks.due("link of the old merge", w.entry(4, 4, 5), w.entry(1, 1, 4));
        Checks.due("hash of the old merge", w.entry(4, 4, 4), Checks.mergeHash(w.entry(4, 3, 4), w.entry(1, 1, 4), 4));
        Checks.due("merges have no client", w.vector(0, 0) + w.vector(0, 1) + w.vector(0, 2), 3);
        Checks.due("fork the healed one", w.fork(1), 5);
        dueSameEntries(w, 4, 5, 5);
        Checks.due("its merge is sound", w.entry(5, 2, 6), 1);
    }

    /** Entries of x keep wrong hashes; own entries of y get right ones. */
    private static void healedUnsoundEntries() {
        ForkWatch w = Checks.service(2, 3, 50);
        w.write(0, 0, 1);
        w.fork(2);
        w.write(0, 1, 2);
        w.write(1, 2, 3);
        w.corrupt(0, 1, 11);
        w.corrupt(0, 2, 12);
        w.corrupt(1, 2, 13);
        Checks.due("common length goes by hashes", w.commonLength(0, 1), 1);
        w.heal(0, 1);
        Checks.due("entries of x as they are", w.entry(2, 1, 6) + w.entry(2, 2, 6), 0);
        Checks.due("values of x as they are", w.entry(2, 1, 3) * 100 + w.entry(2, 2, 3), 1112);
        Checks.due("own entry of y", w.entry(2, 4, 6), 1);
        Checks.due("its hash", w.entry(2, 4, 4), Checks.writeHash(w.entry(2, 3, 4), 1, 2, 13, 4));
    }

    private static void healingRefused() {
        ForkWatch w = Checks.service(2, 2, 50);
        w.fork(2);
        Checks.dueThrows("same", Checks.NO_SUCH, () -> w.heal(1, 1));
        Checks.dueThrows("branch 2", Checks.NO_SUCH, () -> w.heal(0, 2));
        Checks.dueThrows("branch 2 first", Checks.NO_SUCH, () -> w.heal(2, 0));
        Checks.dueThrows("branch -1", Checks.NO_SUCH, () -> w.heal(-1, 0));
        Checks.dueThrows("branch max", Checks.NO_SUCH, () -> w.heal(0, Integer.MAX_VALUE));
        w.write(0, 0, 1);
        w.read(1, 0);
        Checks.dueThrows("conflict", Checks.STATE, () -> w.heal(0, 1));
        Checks.dueThrows("conflict, turned", Checks.STATE, () -> w.heal(1, 0));
        Checks.due("nothing made", w.branches(), 2);
        Checks.due("nobody moved", w.branchOf(0) * 10 + w.branchOf(1), 1);
        w.rewind(1, 1);
        for (int made = 2; made < 8; made++) {
            w.fork(2);
        }
        Checks.dueThrows("8 branches", Checks.STATE, () -> w.heal(0, 1));
        Checks.dueThrows("no branch before 8 branches", Checks.NO_SUCH, () -> w.heal(0, 8));
    }

    private static void healingToTheLimit() {
        ForkWatch w = Checks.service(2, 2, 50);
        Checks.readOften(w, 0, 100);
        w.fork(2);
        Checks.readOften(w, 0, 50);
        Checks.readOften(w, 1, 49);
        Checks.due("heal to 200 entries", w.heal(0, 1), 2);
        Checks.due("length", w.length(2), 200);
        Checks.due("the last hash is right", w.entry(2, 200, 6), 1);
        Checks.due("the healed client is at its end", w.receipt(1, 0), 200);
        ForkWatch v = Checks.service(2, 2, 50);
        Checks.readOften(v, 0, 100);
        v.fork(2);
        Checks.readOften(v, 0, 50);
        Checks.readOften(v, 1, 49);
        v.write(1, 1, 1);
        Checks.dueThrows("heal to 201 entries", Checks.STATE, () -> v.heal(0, 1));
        Checks.due("nothing made", v.branches(), 2);
    }
}
