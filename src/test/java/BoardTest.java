/** Promises 37 to 41: blames, blame, posts, boardPost, checkPost. */
public final class BoardTest {
    public static void main(String[] args) {
        blameParts();
        blameLimit();
        boardParts();
        boardLimit();
        postChecks();
        Checks.finish();
    }

    private static ForkWatch forked() {
        ForkWatch w = Checks.service(3, 1, 50);
        w.fork(2);
        w.read(0, 0);
        w.read(1, 0);
        return w;
    }

    private static void blameParts() {
        ForkWatch w = forked();
        Checks.due("none", w.blames(), 0);
        w.exchange(0, 1);
        w.exchange(1, 0);
        Checks.due("two", w.blames(), 2);
        int zero = w.entry(0, 1, 4);
        int one = w.entry(1, 1, 4);
        int[][] due = {{2, 0, 1, 1, zero, one}, {2, 1, 0, 1, one, zero}};
        for (int index = 0; index < 2; index++) {
            for (int what = 0; what < 6; what++) {
                Checks.due("part " + what + " of " + index, w.blame(index, what), due[index][what]);
            }
        }
        Checks.dueThrows("what 6", Checks.ARGUMENT, () -> w.blame(0, 6));
        Checks.dueThrows("what -1", Checks.ARGUMENT, () -> w.blame(0, -1));
        Checks.dueThrows("index 2", Checks.NO_SUCH, () -> w.blame(2, 6));
        Checks.dueThrows("index -1", Checks.NO_SUCH, () -> w.blame(-1, 0));
        Checks.dueThrows("index max", Checks.NO_SUCH, () -> w.blame(Integer.MAX_VALUE, 0));
    }

    private static void blameLimit() {
        ForkWatch w = forked();
        w.exchange(1, 0);
        w.exchange(0, 1);
        Checks.run(w, "exchange 1 0;".repeat(57));
        w.exchange(0, 1);
        Checks.due("60 records", w.blames(), 60);
        Checks.due("the oldest one", w.blame(0, 1), 1);
        Checks.due("the newest one", w.blame(59, 1), 0);
        w.exchange(1, 0);
        Checks.due("60 records still", w.blames(), 60);
        Checks.due("the second one is the oldest", w.blame(0, 1), 0);
        Checks.due("the numbers are one less", w.blame(58, 1), 0);
        Checks.due("the newest one then", w.blame(59, 1), 1);
        Checks.dueThrows("index 60", Checks.NO_SUCH, () -> w.blame(60, 0));
        Checks.run(w, "exchange 0 1;".repeat(60));
        Checks.due("all new", w.blame(0, 1) + w.blame(30, 1) + w.blame(59, 1), 0);
        Checks.due("their other client", w.blame(0, 2) + w.blame(59, 2), 2);
    }

    private static void boardParts() {
        ForkWatch w = Checks.service(3, 1, 50);
        Checks.due("none", w.posts(), 0);
        w.post(2);
        w.write(1, 0, 3);
        w.post(1);
        Checks.due("two", w.posts(), 2);
        int hash = w.entry(0, 1, 4);
        long first = Checks.seal(1, 2, 0, 1);
        long[][] due = {{2, 0, 1, first}, {1, 1, hash, Checks.seal(first, 1, 1, hash)}};
        for (int index = 0; index < 2; index++) {
            for (int what = 0; what < 4; what++) {
                Checks.due("part " + what + " of " + index, w.boardPost(index, what), due[index][what]);
            }
        }
        Checks.dueThrows("what 4", Checks.ARGUMENT, () -> w.boardPost(0, 4));
        Checks.dueThrows("what -1", Checks.ARGUMENT, () -> w.boardPost(0, -1));
        Checks.dueThrows("index 2", Checks.NO_SUCH, () -> w.boardPost(2, 4));
        Checks.dueThrows("index -1", Checks.NO_SUCH, () -> w.boardPost(-1, 0));
        Checks.dueThrows("index min", Checks.NO_SUCH, () -> w.boardPost(Integer.MIN_VALUE, 0));
    }

    private static void boardLimit() {
        ForkWatch w = Checks.service(2, 1, 1);
        Checks.readOften(w, 0, 43);
        Checks.due("40 posts", w.posts(), 40);
        long seal = 1;
        for (int at = 1; at <= 43; at++) {
            seal = Checks.seal(seal, 0, at, w.entry(0, at, 4));
            if (at > 3) {
                Checks.due("position of post " + (at - 4), w.boardPost(at - 4, 1), at);
                Checks.due("seal of post " + (at - 4), w.boardPost(at - 4, 3), seal);
            }
        }
        Checks.dueThrows("index 40", Checks.NO_SUCH, () -> w.boardPost(40, 0));
        // Posts that have been removed refute nothing any more.
        ForkWatch v = Checks.service(2, 1, 50);
        v.read(0, 0);
        v.post(0);
        v.rewind(0, 1);
        v.write(1, 0, 1);
        Checks.due("refuted", v.wouldFind(1), 4);
        Checks.run(v, "post 1;".repeat(39));
        Checks.due("refuted still", v.wouldFind(1), 4);
        v.post(1);
        Checks.due("the post is gone", v.wouldFind(1), 0);
    }

    private static void postChecks() {
        ForkWatch w = forked();
        w.post(2);
        w.post(0);
        Checks.due("all have the start", w.checkPost(0, 0) + w.checkPost(1, 0) + w.checkPost(2, 0), 0);
        Checks.due("its own", w.checkPost(0, 1), 0);
        Checks.due("another hash", w.checkPost(1, 1), 1);
        Checks.due("lower", w.checkPost(2, 1), 2);
        w.calm(1);
        w.rewind(1, 1);
        w.adopt(1);
        Checks.due("lower then", w.checkPost(1, 1), 2);
        w.move(1, 0);
        w.read(1, 0);
        Checks.due("the same at a higher position", w.checkPost(1, 1), 0);
        Checks.dueThrows("client 3", Checks.NO_SUCH, () -> w.checkPost(3, 0));
        Checks.dueThrows("client -1", Checks.NO_SUCH, () -> w.checkPost(-1, 0));
        Checks.dueThrows("index 2", Checks.NO_SUCH, () -> w.checkPost(0, 2));
        Checks.dueThrows("index -1", Checks.NO_SUCH, () -> w.checkPost(0, -1));
    }
}
