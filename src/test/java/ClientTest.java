/** Promises 28 to 36: receipt, isSigned, hashAt, vector, order, isSuspicious, wouldFind, forkedPairs, seenBy. */
public final class ClientTest {
    public static void main(String[] args) {
        receipts();
        signatures();
        hashes();
        vectors();
        orders();
        suspicion();
        findings();
        pairs();
        viewers();
        Checks.finish();
    }

    private static void receipts() {
        ForkWatch w = Checks.service(3, 3, 50);
        Checks.due("position", w.receipt(2, 0), 0);
        Checks.due("hash", w.receipt(2, 1), 1);
        Checks.due("signature", w.receipt(2, 2), 31 + 26 + 12345);
        w.read(0, 2);
        w.write(2, 1, 500000);
        long hash = Checks.writeHash(Checks.readHash(1, 0, 2, 1), 2, 1, 500000, 2);
        Checks.due("position then", w.receipt(2, 0), 2);
        Checks.due("hash then", w.receipt(2, 1), hash);
        Checks.due("signature then", w.receipt(2, 2), Checks.signature(2, 2, hash));
        Checks.dueThrows("what 3", Checks.ARGUMENT, () -> w.receipt(0, 3));
        Checks.dueThrows("what -1", Checks.ARGUMENT, () -> w.receipt(0, -1));
        Checks.dueThrows("client 3, what 3", Checks.NO_SUCH, () -> w.receipt(3, 3));
        Checks.dueThrows("client -1", Checks.NO_SUCH, () -> w.receipt(-1, 0));
    }

    private static void signatures() {
        ForkWatch w = Checks.service(3, 1, 50);
        int[] hashes = {0, 1, 93915182, 2147483645, 2147483646};
        int[] positions = {0, 1, 199, 200};
        for (int hash : hashes) {
            for (int position : positions) {
                int signature = (int) Checks.signature(1, position, hash);
                Checks.due("signed", w.isSigned(1, position, hash, signature), true);
                Checks.due("signed by 2", w.isSigned(2, position, hash, signature), false);
                Checks.due("other signature", w.isSigned(1, position, hash, signature ^ 1), false);
            }
        }
        Checks.due("position 201", w.isSigned(1, 201, 5, (int) Checks.signature(1, 201, 5)), false);
        Checks.due("position -1", w.isSigned(1, -1, 5, (int) Checks.signature(1, -1, 5)), false);
        Checks.due("client 3", w.isSigned(3, 1, 5, (int) Checks.signature(3, 1, 5)), false);
        Checks.due("client -1", w.isSigned(-1, 1, 5, (int) Checks.signature(-1, 1, 5)), false);
        Checks.due("hash too great", w.isSigned(1, 1, 2147483647, (int) Checks.signature(1, 1, 2147483647)), false);
        Checks.due("hash -1", w.isSigned(1, 1, -1, (int) Checks.signature(1, 1, -1)), false);
        Checks.due("hash -1, remainder of Java", w.isSigned(1, 1, -1, 12345 + 17 + 13 - 31), false);
        Checks.due("signature 2147483647 for 0", w.isSigned(1, 1, 5, -1), false);
    }

    private static void hashes() {
        ForkWatch w = Checks.service(2, 1, 50);
        Checks.due("at 0", w.hashAt(1, 0), 1);
        Checks.dueThrows("at 1", Checks.NO_SUCH, () -> w.hashAt(1, 1));
        w.read(0, 0);
        w.read(0, 0);
        w.read(1, 0);
        w.read(0, 0);
        for (int at = 1; at <= 3; at++) {
            Checks.due("at " + at, w.hashAt(1, at), w.entry(0, at, 4));
        }
        Checks.due("at 0 still", w.hashAt(1, 0), 1);
        Checks.dueThrows("at 4", Checks.NO_SUCH, () -> w.hashAt(1, 4));
        Checks.due("at 4 for 0", w.hashAt(0, 4), w.entry(0, 4, 4));
        Checks.dueThrows("at -1", Checks.NO_SUCH, () -> w.hashAt(1, -1));
        Checks.dueThrows("at 201", Checks.NO_SUCH, () -> w.hashAt(1, 201));
        Checks.dueThrows("client 2", Checks.NO_SUCH, () -> w.hashAt(2, 0));
        Checks.dueThrows("client -1", Checks.NO_SUCH, () -> w.hashAt(-1, 0));
    }

    private static void vectors() {
        ForkWatch w = Checks.service(3, 1, 50);
        w.read(0, 0);
        w.write(1, 0, 1);
        w.write(0, 0, 1);
        w.read(2, 0);
        w.read(0, 0);
        Checks.due("of 2", w.vector(2, 0) * 100 + w.vector(2, 1) * 10 + w.vector(2, 2), 211);
        Checks.due("of 1", w.vector(1, 0) * 100 + w.vector(1, 1) * 10 + w.vector(1, 2), 110);
        Checks.due("of 0", w.vector(0, 0) * 100 + w.vector(0, 1) * 10 + w.vector(0, 2), 311);
        Checks.dueThrows("client 3", Checks.NO_SUCH, () -> w.vector(3, 0));
        Checks.dueThrows("client -1", Checks.NO_SUCH, () -> w.vector(-1, 0));
        Checks.dueThrows("other 3", Checks.NO_SUCH, () -> w.vector(0, 3));
        Checks.dueThrows("other -1", Checks.NO_SUCH, () -> w.vector(0, -1));
    }

    private static void orders() {
        ForkWatch w = Checks.service(3, 1, 50);
        Checks.due("equal at the start", w.order(0, 1), 0);
        w.read(0, 0);
        Checks.due("second less", w.order(0, 1), 2);
        Checks.due("first less", w.order(1, 0), 1);
        Checks.due("itself", w.order(0, 0), 0);
        w.fork(2);
        w.read(1, 0);
        Checks.due("one more of its own", w.order(0, 1), 1);
        w.read(0, 0);
        Checks.due("both have more", w.order(0, 1), 3);
        Checks.due("both have more, turned", w.order(1, 0), 3);
        w.move(2, 1);
        w.adopt(2);
        Checks.due("adopted", w.order(1, 2), 0);
        Checks.dueThrows("client 3", Checks.NO_SUCH, () -> w.order(3, 0));
        Checks.dueThrows("other 3", Checks.NO_SUCH, () -> w.order(0, 3));
        Checks.dueThrows("other -1", Checks.NO_SUCH, () -> w.order(0, -1));
        ForkWatch v = Checks.service(6, 1, 50);
        v.read(5, 0);
        v.read(4, 0);
        Checks.due("the last client counts", v.order(5, 0), 2);
        Checks.due("less by one", v.order(5, 4), 1);
    }

    private static void suspicion() {
        ForkWatch w = Checks.service(2, 1, 50);
        Checks.due("at first", w.isSuspicious(0) || w.isSuspicious(1), false);
        w.read(0, 0);
        w.rewind(0, 1);
        Checks.dueThrows("rollback", Checks.STATE, () -> w.read(0, 0));
        Checks.due("then", w.isSuspicious(0), true);
        Checks.due("the other one", w.isSuspicious(1), false);
        Checks.dueThrows("client 2", Checks.NO_SUCH, () -> w.isSuspicious(2));
        Checks.dueThrows("client -1", Checks.NO_SUCH, () -> w.isSuspicious(-1));
    }

    private static void findings() {
        ForkWatch w = Checks.service(3, 1, 50);
        Checks.due("nothing", w.wouldFind(0), 0);
        w.write(0, 0, 1);
        w.write(0, 0, 2);
        w.fork(2);
        w.corrupt(1, 2, 3);
        Checks.due("tampering", w.wouldFind(1), 3);
        w.move(0, 1);
        Checks.due("not for the one that has verified it", w.wouldFind(0), 0);
        w.corrupt(1, 2, 2);
        Checks.due("nothing again", w.wouldFind(1), 0);
        w.rewind(1, 1);
        Checks.due("rollback", w.wouldFind(0), 1);
        w.write(1, 0, 9);
        Checks.due("fork", w.wouldFind(0), 2);
        w.post(0);
        Checks.due("witness", w.wouldFind(1), 4);
        w.corrupt(1, 1, 8);
        Checks.due("witness, as 1 has verified the entry", w.wouldFind(1), 4);
        w.move(2, 1);
        Checks.due("tampering before the witness", w.wouldFind(2), 3);
        Checks.due("nothing done", w.blames(), 0);
        Checks.due("nobody suspicious", w.isSuspicious(0) || w.isSuspicious(1) || w.isSuspicious(2), false);
        Checks.due("no history", w.receipt(2, 0), 0);
        Checks.dueThrows("found", Checks.STATE, () -> w.read(2, 0));
        Checks.due("as if it were not suspicious", w.wouldFind(2), 3);
        w.move(2, 0);
        Checks.due("nothing, though suspicious", w.wouldFind(2), 0);
        Checks.due("still suspicious", w.isSuspicious(2), true);
        Checks.dueThrows("client 3", Checks.NO_SUCH, () -> w.wouldFind(3));
        Checks.dueThrows("client -1", Checks.NO_SUCH, () -> w.wouldFind(-1));
    }

    private static void pairs() {
        ForkWatch w = Checks.service(6, 1, 50);
        Checks.due("none", w.forkedPairs(), 0);
        w.read(0, 0);
        w.fork(2);
        w.fork(4);
        w.read(1, 0);
        w.read(2, 0);
        Checks.due("one", w.forkedPairs(), 1);
        w.read(3, 0);
        w.read(4, 0);
        Checks.due("five", w.forkedPairs(), 5);
        w.fork(32);
        w.read(5, 0);
        Checks.due("seven", w.forkedPairs(), 7);
        w.rewind(0, 2);
        w.adopt(3);
        Checks.due("less after adopt", w.forkedPairs(), 5);
        ForkWatch v = Checks.service(2, 1, 50);
        v.fork(1);
        v.read(0, 0);
        v.read(1, 0);
        Checks.due("0 and 1", v.forkedPairs(), 1);
    }

    private static void viewers() {
        ForkWatch w = Checks.service(4, 1, 50);
        Checks.due("nothing done: all have it", w.seenBy(1), 0b1101);
        w.read(1, 0);
        Checks.due("nobody yet", w.seenBy(1), 0);
        w.read(0, 0);
        w.read(2, 0);
        Checks.due("two", w.seenBy(1), 0b101);
        Checks.due("one", w.seenBy(0), 0b100);
        Checks.due("0 for 3: all", w.seenBy(3), 0b111);
        w.fork(0b1000);
        w.rewind(1, 1);
        w.read(3, 0);
        Checks.due("2 and 3 are forked, 0 is not", w.seenBy(3), 0);
        Checks.due("3 has the entries of 1", w.seenBy(1), 0b1101);
        w.read(1, 0);
        w.move(0, 1);
        w.read(0, 0);
        Checks.due("forked ones do not count", w.seenBy(1), 0);
        Checks.due("of 0: not its second entry", w.seenBy(0), 0);
        Checks.due("of 2: 1 alone", w.seenBy(2), 0b10);
        Checks.dueThrows("client 4", Checks.NO_SUCH, () -> w.seenBy(4));
        Checks.dueThrows("client -1", Checks.NO_SUCH, () -> w.seenBy(-1));
        // The number alone does not do: in another branch there may be as many entries of the client.
        ForkWatch v = Checks.service(3, 1, 50);
        v.fork(4);
        v.read(0, 0);
        v.rewind(0, 1);
        v.read(1, 0);
        Checks.due("1 has no entry of 0", v.seenBy(0), 0);
        v.rewind(0, 1);
        v.move(0, 1);
        v.adopt(0);
        v.write(0, 0, 1);
        v.read(2, 0);
        v.move(0, 0);
        v.adopt(0);
        v.read(0, 0);
        Checks.due("2 has another entry of 0", v.vector(2, 0), 1);
        Checks.due("and is forked from it", v.seenBy(0), 0);
    }
}
