import java.io.IOException;

/** The boundary cases of section 1, HISTORIES, sentence by sentence. */
public final class HistoryEdgeTest {
    public static void main(String[] args) throws IOException {
        Edges.open(args);
        Edges.edge("There are C clients (2 to 6) and N blocks (1 to 16), both numbered from 0.",
            HistoryEdgeTest::clientsAndBlocks);
        Edges.edge("The service has branches, at most 8, numbered from 0 in the order in which they came.",
            HistoryEdgeTest::branches);
        Edges.edge("A branch is a sequence of at most 200 entries, at the positions 1, 2 and so on; its length is the "
            + "number of its entries.", HistoryEdgeTest::positions);
        Edges.edge("An entry has a kind (0 read, 1 write, 2 merge)", HistoryEdgeTest::kinds);
        Edges.edge("a read has the value 0", HistoryEdgeTest::valueOfRead);
        Edges.edge("a merge has the client -1, the block -1 and the value 0, and a number called its link",
            HistoryEdgeTest::partsOfMerge);
        Edges.edge("At first there is branch 0 without entries, and all clients see it.", HistoryEdgeTest::atFirst);
        Edges.edge("The value of a block in a branch is that of its last write of the block, 0 without one.",
            HistoryEdgeTest::values);
        Edges.edge("The hash at position 0 is 1.", HistoryEdgeTest::hashAtZero);
        Edges.edge("is computed modulo 2147483647 (all in long)", HistoryEdgeTest::greatHashes);
        Edges.edge("- read: (h * 1000003 + client * 7919 + block * 104729 + n) modulo 2147483647;",
            HistoryEdgeTest::readHashes);
        Edges.edge("- write: (h * 1000003 + client * 7919 + block * 104729 + (value + 1) * 15485863 + n) modulo "
            + "2147483647;", HistoryEdgeTest::writeHashes);
        Edges.edge("- merge: (h * 1000003 + link * 1299709 + n) modulo 2147483647.", HistoryEdgeTest::mergeHashes);
        Checks.finish();
    }

    private static void clientsAndBlocks() {
        for (int clients = 2; clients <= 6; clients++) {
            for (int blocks = 1; blocks <= 16; blocks++) {
                ForkWatch w = Checks.service(clients, blocks, 50);
                int oneMore = clients;
                int blockMore = blocks;
                Checks.due("clients", w.clients(), clients);
                Checks.due("blocks", w.blocks(), blocks);
                Checks.due("first client, first block", w.write(0, 0, 1), 1);
                Checks.due("last client, last block", w.write(clients - 1, blocks - 1, 1), 2);
                Checks.dueThrows("one client more", Checks.NO_SUCH, () -> w.write(oneMore, 0, 1));
                Checks.dueThrows("one block more", Checks.NO_SUCH, () -> w.write(0, blockMore, 1));
                Checks.dueThrows("client -1", Checks.NO_SUCH, () -> w.write(-1, 0, 1));
                Checks.dueThrows("block -1", Checks.NO_SUCH, () -> w.write(0, -1, 1));
            }
        }
        for (int clients : new int[] {0, 1, 7}) {
            Checks.dueThrows(clients + " clients", Checks.STATE, () -> Checks.service(clients, 1, 50));
        }
        for (int blocks : new int[] {0, 17}) {
            Checks.dueThrows(blocks + " blocks", Checks.STATE, () -> Checks.service(2, blocks, 50));
        }
    }

    private static void branches() {
        ForkWatch w = Checks.service(2, 1, 50);
        Checks.due("the first branch", w.length(0), 0);
        Checks.due("by fork", w.fork(1), 1);
        Checks.due("by heal", w.heal(0, 1), 2);
        Checks.due("by fork again", w.fork(2), 3);
        Checks.due("by heal again", w.heal(3, 1), 4);
        for (int made = 5; made < 8; made++) {
            Checks.due("by fork", w.fork(1), made);
            Checks.due("branches", w.branches(), made + 1);
        }
        Checks.dueThrows("a ninth by fork", Checks.STATE, () -> w.fork(1));
        Checks.dueThrows("a ninth by heal", Checks.STATE, () -> w.heal(1, 0));
        Checks.due("eight", w.branches(), 8);
        Checks.due("the last one", w.length(7), w.length(2));
        Checks.dueThrows("no ninth", Checks.NO_SUCH, () -> w.length(8));
    }

    private static void positions() {
        ForkWatch w = Checks.service(2, 1, 50);
        Checks.due("first position", w.write(0, 0, 1), 1);
        Checks.due("second position", w.write(1, 0, 2), 2);
        Checks.due("length", w.length(0), 2);
        Checks.dueThrows("nothing at 0", Checks.NO_SUCH, () -> w.entry(0, 0, 0));
        Checks.dueThrows("nothing at 3", Checks.NO_SUCH, () -> w.entry(0, 3, 0));
        w.adopt(0);
        Checks.readOften(w, 0, 197);
        Checks.due("the last position", w.write(0, 0, 3), 200);
        Checks.due("length", w.length(0), 200);
        Checks.due("entry at 200", w.entry(0, 200, 3), 3);
        Checks.dueThrows("no write more", Checks.STATE, () -> w.write(0, 0, 4));
        Checks.dueThrows("no read more", Checks.STATE, () -> w.read(0, 0));
        Checks.due("length still", w.length(0), 200);
        Checks.dueThrows("nothing at 201", Checks.NO_SUCH, () -> w.entry(0, 201, 0));
    }

    /** An entry of each kind at the positions 1, 2 and 3. */
    private static ForkWatch allKinds() {
        ForkWatch w = Checks.service(2, 3, 50);
        w.write(1, 2, 9);
        w.read(1, 2);
        w.fork(1);
        w.heal(0, 1);
        return w;
    }

    private static void kinds() {
        ForkWatch w = allKinds();
        Checks.due("write", w.entry(2, 1, 0), 1);
        Checks.due("read", w.entry(2, 2, 0), 0);
        Checks.due("merge", w.entry(2, 3, 0), 2);
    }

    private static void valueOfRead() {
        ForkWatch w = allKinds();
        Checks.due("what was read", w.value(2, 2), 9);
        Checks.due("value of the read", w.entry(2, 2, 3), 0);
    }

    private static void partsOfMerge() {
        ForkWatch w = allKinds();
        Checks.due("client", w.entry(2, 3, 1), -1);
        Checks.due("block", w.entry(2, 3, 2), -1);
        Checks.due("value", w.entry(2, 3, 3), 0);
        Checks.due("link", w.entry(2, 3, 5), w.entry(1, 2, 4));
    }

    private static void atFirst() {
        ForkWatch w = Checks.service(6, 1, 50);
        Checks.due("branches", w.branches(), 1);
        Checks.due("length", w.length(0), 0);
        for (int client = 0; client < 6; client++) {
            Checks.due("seen by " + client, w.branchOf(client), 0);
        }
    }

    private static void values() {
        ForkWatch w = Checks.service(2, 3, 50);
        Checks.due("in an empty branch", w.value(0, 0), 0);
        w.read(0, 0);
        Checks.due("with a read only", w.value(0, 0), 0);
        w.write(0, 1, 5);
        Checks.due("with a write of another block only", w.value(0, 0), 0);
        w.write(0, 0, 6);
        w.write(0, 0, 7);
        w.read(0, 0);
        Checks.due("the last of two writes", w.value(0, 0), 7);
        w.write(0, 0, 0);
        Checks.due("a last write of 0", w.value(0, 0), 0);
        w.rewind(0, 1);
        Checks.due("the write before it", w.value(0, 0), 7);
        w.fork(2);
        w.rewind(1, 2);
        Checks.due("in another branch", w.value(1, 0), 6);
        Checks.due("a block that nobody wrote", w.value(1, 2), 0);
    }

    private static void hashAtZero() {
        ForkWatch w = Checks.service(2, 1, 50);
        Checks.due("of a client", w.hashAt(0, 0), 1);
        w.read(0, 0);
        Checks.due("the first entry comes behind 1", w.entry(0, 1, 4), 1000003 + 1);
        Checks.due("of a client with a history", w.hashAt(0, 0), 1);
        Checks.due("read by the formula", w.entry(0, 1, 6), 1);
    }

    /** Each product is beyond an int, and the sums of a full branch wrap round many times. */
    private static void greatHashes() {
        ForkWatch w = Checks.service(6, 16, 50);
        for (int done = 0; done < 180; done += 30) {
            Checks.due("writes", Checks.run(w, "5 writes 15 999999;".repeat(30)), 30);
        }
        Checks.due("the last writes", Checks.run(w, "5 writes 15 999999;".repeat(20)), 20);
        long hash = 1;
        for (int at = 1; at <= 200; at++) {
            hash = Checks.writeHash(hash, 5, 15, 999999, at);
            Checks.due("hash at " + at, w.entry(0, at, 4), hash);
        }
        Checks.due("none is negative", w.entry(0, 200, 4) >= 0, true);
    }

    private static void readHashes() {
        ForkWatch w = Checks.service(6, 16, 50);
        w.read(5, 0);
        w.read(0, 15);
        w.read(5, 15);
        long first = 1000003L + 5 * 7919 + 1;
        Checks.due("client 5", w.entry(0, 1, 4), first);
        long second = (first * 1000003L + 15 * 104729 + 2) % 2147483647L;
        Checks.due("block 15", w.entry(0, 2, 4), second);
        Checks.due("both", w.entry(0, 3, 4), (second * 1000003L + 5 * 7919 + 15 * 104729 + 3) % 2147483647L);
    }

    private static void writeHashes() {
        ForkWatch w = Checks.service(6, 16, 50);
        w.write(0, 0, 0);
        w.write(5, 15, 999999);
        long first = 1000003L + 15485863 + 1;
        Checks.due("value 0", w.entry(0, 1, 4), first);
        long sum = first * 1000003L + 5 * 7919 + 15 * 104729 + 1000000L * 15485863 + 2;
        Checks.due("value 999999", w.entry(0, 2, 4), sum % 2147483647L);
    }

    private static void mergeHashes() {
        ForkWatch w = Checks.service(2, 1, 50);
        w.fork(2);
        w.heal(0, 1);
        Checks.due("link 1 at position 1", w.entry(2, 1, 4), 1000003 + 1299709 + 1);
        w.write(0, 0, 999999);
        w.heal(0, 2);
        long link = w.entry(2, 2, 4);
        Checks.due("a great link", link > 1000000, true);
        Checks.due("its hash", w.entry(3, 1, 4), (1000003L + link * 1299709L + 1) % 2147483647L);
    }
}
