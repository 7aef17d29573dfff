import java.io.IOException;
import java.util.function.Consumer;
import java.util.function.Supplier;

/** The sentences behind section 5: sets as bits, which exception is thrown, no service yet, what a throw changes. */
public final class ThrowEdgeTest {
    public static void main(String[] args) throws IOException {
        Edges.open(args);
        Edges.edge("Sets of clients and blocks are bits: bit k for number k.", ThrowEdgeTest::bits);
        Edges.edge("If several exceptions apply to a call, the one that is listed first in its description is thrown.",
            ThrowEdgeTest::firstListed);
        Edges.edge("Before the first service is loaded, there are no clients, blocks and branches.",
            ThrowEdgeTest::noServiceYet);
        Edges.edge("A call that throws changes nothing, unless its description says otherwise.",
            ThrowEdgeTest::nothingChanges);
        Edges.edge("An object is used for at most 512 calls after it has been made", ThrowEdgeTest::manyCalls);
        Checks.finish();
    }

    private static void bits() {
        ForkWatch w = Checks.service(6, 16, 50);
        for (int client = 0; client < 6; client++) {
            int made = w.fork(1 << client);
            for (int other = 0; other < 6; other++) {
                Checks.due("branch of " + other, w.branchOf(other), other <= client ? other + 1 : 0);
            }
            Checks.due("branch", made, client + 1);
        }
        for (int client = 0; client < 6; client++) {
            ForkWatch v = Checks.service(6, 16, 50);
            v.read(client, 0);
            int viewer = (client + 2) % 6;
            v.read(viewer, 0);
            Checks.due("seen by " + viewer, v.seenBy(client), 1 << viewer);
            Checks.run(v, "fork " + client + " " + viewer + ";");
            for (int other = 0; other < 6; other++) {
                Checks.due("moved", v.branchOf(other), other == client || other == viewer ? 1 : 0);
            }
        }
        for (int block = 0; block < 16; block++) {
            ForkWatch v = Checks.service(6, 16, 50);
            v.fork(2);
            v.read(0, block);
            v.write(1, block, 1);
            Checks.due("conflict", v.conflicts(0, 1), 1 << block);
        }
    }

    /**
     * Client 0 would post with its next operation; 1 sees branch 1 and is suspicious, as is 2. There are a blame
     * record, a post, a refused step, an error, and a text in the buffer.
     */
    private static ForkWatch rich() {
        ForkWatch w = Checks.service(3, 2, 3);
        w.read(0, 0);
        w.write(0, 1, 5);
        w.fork(2);
        w.write(1, 0, 7);
        w.read(2, 0);
        w.exchange(1, 2);
        w.post(0);
        Checks.run(w, "heal 0 0;");
        Checks.dueThrows("a wrong script", Checks.STATE, () -> Checks.run(w, "post 9;"));
        Checks.feed(w, "post 0;");
        return w;
    }

    private static ForkWatch eightBranches() {
        ForkWatch w = Checks.service(2, 2, 2);
        w.read(0, 0);
        for (int made = 1; made <= 7; made++) {
            w.fork(1);
        }
        Checks.feed(w, "post 0;");
        return w;
    }

    /** To heal these makes 160 entries, a merge and 40 entries: one too many. */
    private static ForkWatch longBranches() {
        ForkWatch w = Checks.service(3, 2, 50);
        Checks.readOften(w, 2, 120);
        w.fork(2);
        Checks.readOften(w, 0, 40);
        Checks.readOften(w, 1, 40);
        Checks.feed(w, "post 0;");
        return w;
    }

    private static ForkWatch fullBranch() {
        ForkWatch w = Checks.service(3, 2, 3);
        Checks.readOften(w, 2, 199);
        w.read(0, 0);
        w.fork(2);
        Checks.feed(w, "post 0;");
        return w;
    }

    private static void dueFirst(String what, Class<? extends RuntimeException> want, Consumer<ForkWatch> call) {
        ForkWatch w = rich();
        Checks.dueThrows(what, want, () -> call.accept(w));
    }

    private static void firstListed() {
        dueFirst("load: length, text", Checks.ARGUMENT, w -> w.load(21));
        dueFirst("run: length, text", Checks.ARGUMENT, w -> w.run(21));
        ForkWatch empty = new ForkWatch();
        Checks.dueThrows("run: length, no service", Checks.ARGUMENT, () -> empty.run(1));
        dueFirst("write: client, value", Checks.NO_SUCH, w -> w.write(3, 0, -1));
        dueFirst("write: block, value", Checks.NO_SUCH, w -> w.write(0, 2, 1000000));
        dueFirst("write: block, suspicious", Checks.NO_SUCH, w -> w.write(1, 2, 0));
        dueFirst("write: value, suspicious", Checks.ARGUMENT, w -> w.write(1, 0, -1));
        dueFirst("write: all", Checks.NO_SUCH, w -> w.write(1, -1, -1));
        dueFirst("read: block, suspicious", Checks.NO_SUCH, w -> w.read(1, 2));
        dueFirst("fork: client, two branches", Checks.ARGUMENT, w -> w.fork(0b1011));
        dueFirst("rewind: branch, count", Checks.NO_SUCH, w -> w.rewind(2, 0));
        dueFirst("corrupt: branch, value", Checks.NO_SUCH, w -> w.corrupt(2, 1, -1));
        dueFirst("corrupt: entry, value", Checks.NO_SUCH, w -> w.corrupt(0, 4, 1000000));
        dueFirst("corrupt: value, a read", Checks.ARGUMENT, w -> w.corrupt(0, 1, 1000000));
        dueFirst("heal: the same, which are in conflict with another", Checks.NO_SUCH, w -> w.heal(1, 1));
        dueFirst("entry: branch, what", Checks.NO_SUCH, w -> w.entry(2, 1, 7));
        dueFirst("entry: position, what", Checks.NO_SUCH, w -> w.entry(0, 0, -1));
        dueFirst("receipt: client, what", Checks.NO_SUCH, w -> w.receipt(3, 3));
        dueFirst("blame: index, what", Checks.NO_SUCH, w -> w.blame(1, 6));
        dueFirst("boardPost: index, what", Checks.NO_SUCH, w -> w.boardPost(1, 4));
        ForkWatch eight = eightBranches();
        Checks.dueThrows("fork: empty, 8 branches", Checks.ARGUMENT, () -> eight.fork(0));
        Checks.dueThrows("fork: client, 8 branches", Checks.ARGUMENT, () -> eight.fork(4));
        Checks.dueThrows("heal: branch, 8 branches", Checks.NO_SUCH, () -> eight.heal(0, 8));
        Checks.dueThrows("heal: the same, 8 branches", Checks.NO_SUCH, () -> eight.heal(7, 7));
        ForkWatch full = fullBranch();
        Checks.dueThrows("write: value, full branch", Checks.ARGUMENT, () -> full.write(0, 0, -1));
        Checks.dueThrows("write: block, full branch", Checks.NO_SUCH, () -> full.write(0, 2, 0));
        Checks.dueThrows("read: block, full branch", Checks.NO_SUCH, () -> full.read(0, 2));
    }

    private static void noServiceYet() {
        ForkWatch w = new ForkWatch();
        for (int number : new int[] {0, 1, -1}) {
            Checks.dueThrows("write", Checks.NO_SUCH, () -> w.write(number, 0, 0));
            Checks.dueThrows("read", Checks.NO_SUCH, () -> w.read(number, 0));
            Checks.dueThrows("exchange", Checks.NO_SUCH, () -> w.exchange(number, 1 - number));
            Checks.dueThrows("post", Checks.NO_SUCH, () -> w.post(number));
            Checks.dueThrows("calm", Checks.NO_SUCH, () -> w.calm(number));
            Checks.dueThrows("adopt", Checks.NO_SUCH, () -> w.adopt(number));
            Checks.dueThrows("fork", Checks.ARGUMENT, () -> w.fork(number));
            Checks.dueThrows("move", Checks.NO_SUCH, () -> w.move(number, 0));
            Checks.dueThrows("rewind", Checks.NO_SUCH, () -> w.rewind(number, 0));
            Checks.dueThrows("corrupt", Checks.NO_SUCH, () -> w.corrupt(number, 1, -1));
            Checks.dueThrows("heal", Checks.NO_SUCH, () -> w.heal(number, 1 - number));
            Checks.dueThrows("length", Checks.NO_SUCH, () -> w.length(number));
            Checks.dueThrows("entry", Checks.NO_SUCH, () -> w.entry(number, 1, 9));
            Checks.dueThrows("value", Checks.NO_SUCH, () -> w.value(number, 0));
            Checks.dueThrows("branchOf", Checks.NO_SUCH, () -> w.branchOf(number));
            Checks.dueThrows("commonLength", Checks.NO_SUCH, () -> w.commonLength(number, number));
            Checks.dueThrows("conflicts", Checks.NO_SUCH, () -> w.conflicts(number, number));
            Checks.dueThrows("receipt", Checks.NO_SUCH, () -> w.receipt(number, 9));
            Checks.dueThrows("hashAt", Checks.NO_SUCH, () -> w.hashAt(number, 0));
            Checks.dueThrows("vector", Checks.NO_SUCH, () -> w.vector(number, number));
            Checks.dueThrows("order", Checks.NO_SUCH, () -> w.order(number, number));
            Checks.dueThrows("isSuspicious", Checks.NO_SUCH, () -> w.isSuspicious(number));
            Checks.dueThrows("wouldFind", Checks.NO_SUCH, () -> w.wouldFind(number));
            Checks.dueThrows("seenBy", Checks.NO_SUCH, () -> w.seenBy(number));
            Checks.dueThrows("blame", Checks.NO_SUCH, () -> w.blame(number, 9));
            Checks.dueThrows("boardPost", Checks.NO_SUCH, () -> w.boardPost(number, 9));
            Checks.dueThrows("checkPost", Checks.NO_SUCH, () -> w.checkPost(number, 0));
            Checks.due("isSigned", w.isSigned(number, 0, 1, 12376), false);
        }
        Checks.due("clients, blocks, branches", w.clients() + w.blocks() + w.branches(), 0);
        Checks.load(w, "clients 2 blocks 1 witness 1;");
        Checks.due("none of these is in the way of a service", w.write(1, 0, 3), 1);
    }

    /** Two objects with the same calls but for the one that throws: they answer the same, and go on the same. */
    private static void dueSame(String what, Supplier<ForkWatch> maker, boolean small,
            Class<? extends RuntimeException> want, Consumer<ForkWatch> call) {
        ForkWatch w = maker.get();
        ForkWatch twin = maker.get();
        Checks.dueThrows(what, want, () -> call.accept(w));
        Checks.due(what + " leaves", stateOf(w, small), stateOf(twin, small));
        Checks.due(what + " leaves the text in the buffer", goOn(w), goOn(twin));
        Checks.due(what + " leaves for later", stateOf(w, small), stateOf(twin, small));
    }

    private static String stateOf(ForkWatch w, boolean small) {
        if (small) {
            return Snapshot.of(w);
        }
        StringBuilder text = new StringBuilder();
        for (int branch = 0; branch < w.branches(); branch++) {
            int length = w.length(branch);
            text.append(length).append(' ').append(length == 0 ? 1 : w.entry(branch, length, 4)).append(", ");
        }
        for (int client = 0; client < w.clients(); client++) {
            text.append(w.branchOf(client)).append(' ').append(w.receipt(client, 2)).append(' ');
            text.append(w.isSuspicious(client)).append(' ').append(w.vector(client, client)).append(", ");
        }
        int posts = w.posts();
        return text.append(w.blames()).append(' ').append(posts == 0 ? 1 : w.boardPost(posts - 1, 3)).toString();
    }

    /** Takes the text of the buffer, then shows which operations count for the interval. */
    private static String goOn(ForkWatch w) {
        int fed = w.feed(0x20202020, 0, 0, 0, 0);
        int done = w.run(7);
        for (int client = 0; client < w.clients(); client++) {
            w.adopt(client);
            done = done * 10 + Checks.run(w, client + " reads 0;");
            done = done * 10 + w.posts() % 10;
        }
        return fed + " " + done;
    }

    private static void dueSame(String what, Class<? extends RuntimeException> want, Consumer<ForkWatch> call) {
        dueSame(what, ThrowEdgeTest::rich, true, want, call);
    }

    private static void nothingChanges() {
        wrongInput();
        wrongOperations();
        wrongServiceCalls();
        wrongQuestions();
        dueSame("fork, 8 branches", ThrowEdgeTest::eightBranches, true, Checks.STATE, w -> w.fork(1));
        dueSame("heal, 8 branches", ThrowEdgeTest::eightBranches, true, Checks.STATE, w -> w.heal(0, 1));
        dueSame("heal, 201 entries", ThrowEdgeTest::longBranches, false, Checks.STATE, w -> w.heal(0, 1));
        dueSame("write, full branch", ThrowEdgeTest::fullBranch, false, Checks.STATE, w -> w.write(0, 0, 1));
        dueSame("read, full branch", ThrowEdgeTest::fullBranch, false, Checks.STATE, w -> w.read(2, 0));
        dueSame("fork, two full branches", ThrowEdgeTest::fullBranch, false, Checks.STATE, w -> w.fork(3));
    }

    private static void wrongInput() {
        for (int length : new int[] {-1, 21, Edges.MIN, Edges.MAX}) {
            dueSame("load " + length, Checks.ARGUMENT, w -> w.load(length));
            dueSame("run " + length, Checks.ARGUMENT, w -> w.run(length));
        }
        ForkWatch w = rich();
        for (int left = 20; left < 900; left += 20) {
            w.feed(0x20202020, 0x20202020, 0x20202020, 0x20202020, 0x20202020);
        }
        String before = Snapshot.of(w);
        Checks.due("the text is there", before.contains("error 2 at 5, refused 1"), true);
        Checks.dueThrows("feed", Checks.STATE, () -> w.feed(-1, -1, -1, -1, -1));
        Checks.due("feed leaves", Snapshot.of(w), before);
    }

    private static void wrongOperations() {
        dueSame("write, client", Checks.NO_SUCH, w -> w.write(3, 0, 1));
        dueSame("write, block", Checks.NO_SUCH, w -> w.write(0, 2, 1));
        dueSame("write, value", Checks.ARGUMENT, w -> w.write(0, 0, -1));
        dueSame("write, suspicious", Checks.STATE, w -> w.write(1, 0, 1));
        dueSame("read, client", Checks.NO_SUCH, w -> w.read(-1, 0));
        dueSame("read, block", Checks.NO_SUCH, w -> w.read(0, -1));
        dueSame("read, suspicious", Checks.STATE, w -> w.read(2, 0));
        dueSame("exchange, the same", Checks.NO_SUCH, w -> w.exchange(0, 0));
        dueSame("exchange, the second", Checks.NO_SUCH, w -> w.exchange(1, 3));
        dueSame("exchange, the first", Checks.NO_SUCH, w -> w.exchange(-1, 1));
        dueSame("post", Checks.NO_SUCH, w -> w.post(3));
        dueSame("calm", Checks.NO_SUCH, w -> w.calm(3));
        dueSame("adopt", Checks.NO_SUCH, w -> w.adopt(3));
    }

    private static void wrongServiceCalls() {
        dueSame("fork, empty", Checks.ARGUMENT, w -> w.fork(0));
        dueSame("fork, client", Checks.ARGUMENT, w -> w.fork(0b1001));
        dueSame("fork, two branches", Checks.STATE, w -> w.fork(0b111));
        dueSame("move, client", Checks.NO_SUCH, w -> w.move(3, 1));
        dueSame("move, branch", Checks.NO_SUCH, w -> w.move(0, 2));
        dueSame("rewind, branch", Checks.NO_SUCH, w -> w.rewind(2, 1));
        dueSame("rewind, count 0", Checks.ARGUMENT, w -> w.rewind(0, 0));
        dueSame("rewind, count 4", Checks.ARGUMENT, w -> w.rewind(0, 4));
        dueSame("corrupt, branch", Checks.NO_SUCH, w -> w.corrupt(2, 2, 1));
        dueSame("corrupt, entry", Checks.NO_SUCH, w -> w.corrupt(0, 4, 1));
        dueSame("corrupt, value", Checks.ARGUMENT, w -> w.corrupt(0, 2, 1000000));
        dueSame("corrupt, a read", Checks.STATE, w -> w.corrupt(0, 1, 1));
        dueSame("heal, branch", Checks.NO_SUCH, w -> w.heal(0, 2));
        dueSame("heal, the same", Checks.NO_SUCH, w -> w.heal(1, 1));
        dueSame("heal, conflict", Checks.STATE, w -> w.heal(0, 1));
    }

    private static void wrongQuestions() {
        dueSame("length", Checks.NO_SUCH, w -> w.length(2));
        dueSame("entry, position", Checks.NO_SUCH, w -> w.entry(0, 0, 0));
        dueSame("entry, what", Checks.ARGUMENT, w -> w.entry(0, 1, 7));
        dueSame("value", Checks.NO_SUCH, w -> w.value(0, 2));
        dueSame("branchOf", Checks.NO_SUCH, w -> w.branchOf(3));
        dueSame("commonLength", Checks.NO_SUCH, w -> w.commonLength(0, 2));
        dueSame("conflicts", Checks.NO_SUCH, w -> w.conflicts(2, 0));
        dueSame("receipt", Checks.ARGUMENT, w -> w.receipt(0, 3));
        dueSame("hashAt", Checks.NO_SUCH, w -> w.hashAt(0, 3));
        dueSame("vector", Checks.NO_SUCH, w -> w.vector(0, 3));
        dueSame("order", Checks.NO_SUCH, w -> w.order(3, 0));
        dueSame("isSuspicious", Checks.NO_SUCH, w -> w.isSuspicious(3));
        dueSame("wouldFind", Checks.NO_SUCH, w -> w.wouldFind(3));
        dueSame("seenBy", Checks.NO_SUCH, w -> w.seenBy(3));
        dueSame("blame", Checks.ARGUMENT, w -> w.blame(0, 6));
        dueSame("boardPost", Checks.ARGUMENT, w -> w.boardPost(0, 4));
        dueSame("checkPost", Checks.NO_SUCH, w -> w.checkPost(0, 1));
    }

    /** The first 512 calls are all answered, whatever they are. */
    private static void manyCalls() {
        ForkWatch w = Checks.service(2, 1, 1);
        int calls = 3;
        for (int position = 1; position <= 200; position++, calls++) {
            Checks.due("write " + position, w.write(position % 2, 0, position), position);
        }
        for (int times = 0; times < 150; times++, calls++) {
            Checks.dueThrows("a refused write", Checks.STATE, () -> w.write(0, 0, 1));
        }
        for (; calls < 512; calls++) {
            Checks.due("posts", w.posts(), 40);
        }
    }
}
