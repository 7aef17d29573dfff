import java.io.IOException;

/** The boundary cases of promises 1 to 7, sentence by sentence. */
public final class InputEdgeTest {
    private static final String SERVICE = "clients 3 blocks 2 witness 4;";
    private static final String NO_CHANGE = "errorCode() and errorPosition() do not change then";

    public static void main(String[] args) throws IOException {
        Edges.open(args);
        Edges.edge(1, "Creates a simulator without a service.", InputEdgeTest::newObject);
        Edges.edge(2, "Appends 20 bytes to the input buffer: the four bytes of each parameter in order, the most "
            + "significant byte first.", InputEdgeTest::bytes);
        Edges.edge(2, "Returns the new length of the buffer.", InputEdgeTest::bufferLength);
        Edges.edge(2, "Throws `IllegalStateException` if the length would exceed 900; nothing is appended then",
            InputEdgeTest::fullBuffer);
        Edges.edge(3, "Parses the first length bytes of the buffer as a service.", InputEdgeTest::firstBytesOfService);
        Edges.edge(3, "Without an error, it replaces the old one, and everything begins anew.", InputEdgeTest::anew);
        Edges.edge(3, "The buffer is emptied unless an IllegalArgumentException is thrown.",
            InputEdgeTest::emptiedByLoad);
        Edges.edge(3, "- `length`: number of bytes, 0 to the length of the buffer", InputEdgeTest::lengthOfLoad);
        Edges.edge(3, "Returns the number of clients.", InputEdgeTest::answerOfLoad);
        Edges.edge(3, "Throws `IllegalArgumentException` if length is out of range; " + NO_CHANGE,
            InputEdgeTest::wrongLengthOfLoad);
        Edges.edge(3, "Throws `IllegalStateException` if the text has an error; then only the buffer, errorCode() and "
            + "errorPosition() change", InputEdgeTest::wrongService);
        Edges.edge(4, "Parses the first length bytes of the buffer as a script and, without an error, does its steps.",
            InputEdgeTest::firstBytesOfScript);
        Edges.edge(4, "The buffer is emptied unless an IllegalArgumentException is thrown.",
            InputEdgeTest::emptiedByRun);
        Edges.edge(4, "- `length`: number of bytes, 0 to the length of the buffer", InputEdgeTest::lengthOfRun);
        Edges.edge(4, "Returns the number of steps that were not refused.", InputEdgeTest::answerOfRun);
        Edges.edge(4, "Throws `IllegalArgumentException` if length is out of range; " + NO_CHANGE,
            InputEdgeTest::wrongLengthOfRun);
        Edges.edge(4, "Throws `IllegalStateException` if there is no service (only the buffer is emptied then)",
            InputEdgeTest::runWithoutService);
        Edges.edge(4, "or the text has an error; then only the buffer, errorCode() and errorPosition() change, and no "
            + "step is done", InputEdgeTest::wrongScript);
        Edges.edge(5, "the error found by the latest call of load() or run() that parsed a text",
            InputEdgeTest::latestError);
        Edges.edge(5, "0 if it found none or there was no such call.", InputEdgeTest::noErrorCode);
        Edges.edge(6, "Returns the position of that error; -1 if there is none.", InputEdgeTest::noErrorPosition);
        Edges.edge(7, "Returns the number of steps of the latest script without an error that were refused",
            InputEdgeTest::latestRefused);
        Edges.edge(7, "0 if there was none since the service was loaded.", InputEdgeTest::noneRefused);
        Checks.finish();
    }

    private static void newObject() {
        ForkWatch w = new ForkWatch();
        Checks.due("counts", w.clients() + w.blocks() + w.branches() + w.blames() + w.posts(), 0);
        Checks.due("the buffer is empty", w.feed(0, 0, 0, 0, 0), 20);
        ForkWatch v = Checks.service(2, 1, 1);
        Checks.due("objects do not share a service", new ForkWatch().clients() + 10 * v.clients(), 20);
    }

    private static void bytes() {
        ForkWatch w = Checks.service(2, 1, 1);
        // "0 writes 0 999999;" and two blanks, the bytes of each int from left to right
        w.feed(0x30207772, 0x69746573, 0x20302039, 0x39393939, 0x393b200a);
        Checks.due("in order", w.run(20), 1);
        Checks.due("value", w.value(0, 0), 999999);
        ForkWatch v = Checks.service(2, 1, 1);
        v.feed(0x20202020, 0x20202020, 0x20202020, 0x20202020, 0x20202080);
        Checks.dueThrows("a byte above 127", Checks.STATE, () -> v.run(20));
        Checks.due("stands last", v.errorPosition(), 19);
        v.feed(-1, 0, 0, 0, 0);
        Checks.dueThrows("four bytes 255", Checks.STATE, () -> v.run(20));
        Checks.due("the first stands first", v.errorPosition(), 0);
        v.feed(0x20202020, 0x2020ff20, 0, 0, 0);
        Checks.dueThrows("byte 255", Checks.STATE, () -> v.run(20));
        Checks.due("the third of the second", v.errorPosition(), 6);
    }

    private static void bufferLength() {
        ForkWatch w = new ForkWatch();
        for (int times = 1; times <= 45; times++) {
            Checks.due("feed " + times, w.feed(0, Edges.MIN, Edges.MAX, -1, 1), 20 * times);
        }
    }

    private static void fullBuffer() {
        ForkWatch w = Checks.service(2, 1, 1);
        for (int times = 1; times <= 44; times++) {
            w.feed(0x20202020, 0x20202020, 0x20202020, 0x20202020, 0x20202020);
        }
        Checks.due("exactly 900", w.feed(0x706f7374, 0x20303b20, 0x20202020, 0x20202020, 0x20202020), 900);
        Checks.dueThrows("920", Checks.STATE, () -> w.feed(-1, -1, -1, -1, -1));
        Checks.dueThrows("920 again", Checks.STATE, () -> w.feed(-1, -1, -1, -1, -1));
        Checks.dueThrows("no 901st byte", Checks.ARGUMENT, () -> w.run(901));
        Checks.due("the 900 are as they were", w.run(900), 1);
        Checks.due("from the beginning", w.feed(0, 0, 0, 0, 0), 20);
    }

    private static void firstBytesOfService() {
        ForkWatch w = new ForkWatch();
        Checks.feed(w, SERVICE + "???");
        Checks.due("without the rest", w.load(SERVICE.length()), 3);
        Checks.feed(w, SERVICE + "???");
        Checks.dueThrows("with some of the rest", Checks.STATE, () -> w.load(SERVICE.length() + 1));
        Checks.due("its position", w.errorPosition(), SERVICE.length());
    }

    private static void anew() {
        ForkWatch w = Checks.service(3, 2, 2);
        w.read(0, 0);
        w.write(0, 0, 7);
        w.fork(2);
        w.write(1, 1, 5);
        w.read(0, 0);
        w.exchange(0, 1);
        w.heal(0, 1);
        w.rewind(2, 1);
        Checks.dueThrows("a rollback", Checks.STATE, () -> w.read(1, 0));
        Checks.run(w, "heal 0 0;post 2;");
        Checks.load(w, "clients 3 blocks 2 witness 2;");
        Checks.due("as a new one", Snapshot.of(w), Snapshot.of(Checks.service(3, 2, 2)));
        w.read(0, 1);
        Checks.due("the operations count from 0", w.posts(), 0);
        w.read(0, 1);
        Checks.due("the seals begin with 1", w.boardPost(0, 3), Checks.seal(1, 0, 2, w.receipt(0, 1)));
        Checks.due("the branches begin with 0", w.fork(4), 1);
        Checks.due("their entries are new", w.entry(1, 1, 0) * 10 + w.entry(1, 2, 0), 0);
        Checks.load(w, "clients 2 blocks 1 witness 3;");
        Checks.due("fewer clients and blocks", w.clients() * 10 + w.blocks(), 21);
        Checks.dueThrows("an old client", Checks.NO_SUCH, () -> w.post(2));
        Checks.dueThrows("an old block", Checks.NO_SUCH, () -> w.read(0, 1));
        Checks.dueThrows("an old branch", Checks.NO_SUCH, () -> w.length(1));
        Checks.load(w, "clients 6 blocks 16 witness 1;");
        w.read(5, 15);
        Checks.due("another interval", w.posts(), 1);
    }

    private static void emptiedByLoad() {
        ForkWatch w = new ForkWatch();
        Checks.feed(w, SERVICE);
        Checks.dueThrows("a wrong length", Checks.ARGUMENT, () -> w.load(41));
        Checks.due("the buffer stays", w.load(SERVICE.length()), 3);
        Checks.due("emptied by a service", w.feed(0, 0, 0, 0, 0), 20);
        Checks.dueThrows("a wrong text", Checks.STATE, () -> w.load(1));
        Checks.due("emptied by an error, with the bytes behind it", w.feed(0, 0, 0, 0, 0), 20);
    }

    private static void lengthOfLoad() {
        ForkWatch w = new ForkWatch();
        Checks.dueThrows("0 of 0", Checks.STATE, () -> w.load(0));
        Checks.due("its position", w.errorPosition(), 0);
        Checks.dueThrows("1 of 0", Checks.ARGUMENT, () -> w.load(1));
        Checks.feed(w, SERVICE + " ".repeat(11));
        Checks.dueThrows("41 of 40", Checks.ARGUMENT, () -> w.load(41));
        Checks.due("40 of 40", w.load(40), 3);
        Checks.feed(w, SERVICE);
        Checks.dueThrows("0 of 40", Checks.STATE, () -> w.load(0));
        Checks.due("its position", w.errorPosition(), 0);
        Checks.feed(w, " ".repeat(900 - SERVICE.length()) + SERVICE);
        Checks.due("900 of 900", w.load(900), 3);
    }

    private static void answerOfLoad() {
        for (int clients = 2; clients <= 6; clients++) {
            ForkWatch w = new ForkWatch();
            Checks.due("load", Checks.load(w, "clients " + clients + " blocks 1 witness 1;"), clients);
        }
    }

    private static void wrongLengthOfLoad() {
        ForkWatch w = Checks.service(2, 1, 1);
        Checks.dueThrows("an error", Checks.STATE, () -> Checks.load(w, "clients 9"));
        Checks.feed(w, SERVICE);
        for (int length : new int[] {-1, 41, 900, Edges.MIN, Edges.MAX}) {
            Checks.dueThrows("length " + length, Checks.ARGUMENT, () -> w.load(length));
            Checks.due("error", w.errorCode() * 10 + w.errorPosition(), 28);
        }
        Checks.due("the old service stays", w.clients(), 2);
    }

    private static void wrongService() {
        ForkWatch w = Checks.service(3, 2, 2);
        w.read(0, 0);
        w.fork(2);
        w.read(1, 0);
        w.exchange(0, 1);
        w.post(2);
        Checks.run(w, "heal 0 0;");
        String before = Snapshot.of(w);
        String[] texts = {"", "post 0;", "clients 6 blocks 16 witness 51;", "clients 6 blocks 16 witness 50"};
        int[] codes = {1, 1, 2, 1};
        int[] positions = {0, 0, 28, 30};
        for (int at = 0; at < texts.length; at++) {
            String text = texts[at];
            Checks.dueThrows("load of " + text, Checks.STATE, () -> Checks.load(w, text));
            String error = "error " + codes[at] + " at " + positions[at] + ",";
            Checks.due("the state behind " + text, Snapshot.of(w), before.replaceFirst("error 0 at -1,", error));
        }
        Checks.due("the interval stays", w.read(2, 0) + w.posts(), 1);
        w.read(2, 0);
        Checks.due("for the second operation", w.posts(), 2);
        Checks.dueThrows("no client of a wrong service", Checks.STATE, () -> Checks.run(w, "post 3;"));
        Checks.due("is out of range", w.errorCode() * 10 + w.errorPosition(), 25);
        Checks.dueThrows("no block of it", Checks.STATE, () -> Checks.run(w, "0 reads 2;"));
        Checks.due("is out of range", w.errorCode() * 10 + w.errorPosition(), 28);
        ForkWatch v = new ForkWatch();
        Checks.dueThrows("a first one", Checks.STATE, () -> Checks.load(v, "clients 2 blocks 1 witness 1"));
        Checks.due("no service by it", v.clients() + v.blocks() + v.branches(), 0);
    }

    private static void firstBytesOfScript() {
        ForkWatch w = Checks.service(3, 2, 50);
        Checks.feed(w, "post 0;post 1;??????");
        Checks.due("one step of two", w.run(7), 1);
        Checks.due("one post", w.posts(), 1);
        Checks.feed(w, "post 0;post 1;??????");
        Checks.due("without the rest", w.run(14), 2);
        Checks.feed(w, "post 0;post 1;??????");
        Checks.dueThrows("amid a step", Checks.STATE, () -> w.run(10));
        Checks.due("its position", w.errorPosition(), 7);
        Checks.feed(w, "post 12;");
        Checks.dueThrows("amid a number", Checks.STATE, () -> w.run(6));
        Checks.due("what is cut off is not out of range", w.errorCode() * 10 + w.errorPosition(), 16);
    }

    private static void emptiedByRun() {
        ForkWatch w = Checks.service(3, 2, 50);
        Checks.feed(w, "post 0;");
        Checks.dueThrows("a wrong length", Checks.ARGUMENT, () -> w.run(21));
        Checks.due("the buffer stays", w.run(7), 1);
        Checks.due("emptied by a script", w.feed(0, 0, 0, 0, 0), 20);
        Checks.dueThrows("a wrong text", Checks.STATE, () -> w.run(1));
        Checks.due("emptied by an error, with the bytes behind it", w.feed(0, 0, 0, 0, 0), 20);
        Checks.due("an empty script", w.run(0), 0);
        Checks.due("empties it, too", w.feed(0, 0, 0, 0, 0), 20);
    }

    private static void lengthOfRun() {
        ForkWatch w = Checks.service(3, 2, 50);
        Checks.due("0 of 0", w.run(0), 0);
        Checks.dueThrows("1 of 0", Checks.ARGUMENT, () -> w.run(1));
        Checks.feed(w, "post 0;" + " ".repeat(13));
        Checks.dueThrows("21 of 20", Checks.ARGUMENT, () -> w.run(21));
        Checks.due("20 of 20", w.run(20), 1);
        Checks.feed(w, " ".repeat(893) + "post 0;");
        Checks.due("900 of 900", w.run(900), 1);
    }

    private static void answerOfRun() {
        ForkWatch w = Checks.service(3, 2, 50);
        Checks.due("no step", Checks.run(w, " "), 0);
        Checks.due("all refused", Checks.run(w, "heal 0 0;move 0 7;"), 0);
        Checks.due("none refused", Checks.run(w, "post 0;0 reads 0;"), 2);
        Checks.due("some refused", Checks.run(w, "heal 0 0;post 0;move 0 7;0 reads 0;heal 0 1;"), 2);
        Checks.due("an exchange of forked clients is not refused",
            Checks.run(w, "fork 1;1 reads 0;2 reads 0;exchange 1 2;"), 4);
        Checks.due("60", Checks.run(w, "post 0;".repeat(60)), 60);
        int last = w.boardPost(39, 3);
        Checks.due("no step behind such a script", w.run(0), 0);
        Checks.due("its steps are not done again", w.boardPost(39, 3), last);
    }

    private static void wrongLengthOfRun() {
        ForkWatch w = Checks.service(2, 1, 1);
        Checks.dueThrows("an error", Checks.STATE, () -> Checks.run(w, "post 9;"));
        Checks.feed(w, "post 0;");
        for (int length : new int[] {-1, 21, 900, Edges.MIN, Edges.MAX}) {
            Checks.dueThrows("length " + length, Checks.ARGUMENT, () -> w.run(length));
            Checks.due("error", w.errorCode() * 10 + w.errorPosition(), 25);
        }
        Checks.due("no step done", w.posts(), 0);
        ForkWatch v = new ForkWatch();
        Checks.dueThrows("without a service", Checks.ARGUMENT, () -> v.run(-1));
    }

    private static void runWithoutService() {
        ForkWatch w = new ForkWatch();
        Checks.dueThrows("an empty script", Checks.STATE, () -> w.run(0));
        Checks.dueThrows("a script", Checks.STATE, () -> Checks.run(w, "post 0;"));
        Checks.due("no error", w.errorCode() * 10 + w.errorPosition(), -1);
        Checks.due("none refused", w.refused(), 0);
        Checks.due("the buffer is empty", w.feed(0, 0, 0, 0, 0), 20);
        Checks.dueThrows("a service with an error", Checks.STATE, () -> w.load(1));
        Checks.dueThrows("a script with another one", Checks.STATE, () -> Checks.run(w, "post 0;;"));
        Checks.due("the error of the service stays", w.errorCode() * 10 + w.errorPosition(), 10);
    }

    private static void wrongScript() {
        ForkWatch w = Checks.service(3, 2, 2);
        Checks.run(w, "0 reads 0;fork 1;1 reads 0;exchange 0 1;post 2;heal 0 0;");
        String before = Snapshot.of(w);
        String[] texts = {"post 0;post 3;", "post 0;0 writes 0 5", "post 0;".repeat(61), "post 1;;"};
        int[] codes = {2, 1, 3, 1};
        int[] positions = {12, 19, 420, 7};
        for (int at = 0; at < texts.length; at++) {
            String text = texts[at];
            Checks.dueThrows("run of " + text, Checks.STATE, () -> Checks.run(w, text));
            String error = "error " + codes[at] + " at " + positions[at] + ",";
            Checks.due("the state behind " + text, Snapshot.of(w), before.replaceFirst("error 0 at -1,", error));
            Checks.due("the buffer behind " + text, w.feed(0, 0, 0, 0, 0), 20);
            Checks.dueThrows("empties it", Checks.STATE, () -> w.run(20));
        }
    }

    private static void latestError() {
        ForkWatch w = Checks.service(2, 1, 1);
        Checks.dueThrows("a script", Checks.STATE, () -> Checks.run(w, "post 5;"));
        Checks.due("its code", w.errorCode() * 100 + w.errorPosition(), 205);
        Checks.dueThrows("a later script", Checks.STATE, () -> Checks.run(w, "post"));
        Checks.due("its code", w.errorCode() * 100 + w.errorPosition(), 104);
        Checks.dueThrows("a service", Checks.STATE, () -> Checks.load(w, "clients 2 blocks 50"));
        Checks.due("its code", w.errorCode() * 100 + w.errorPosition(), 217);
        Checks.dueThrows("no text parsed", Checks.ARGUMENT, () -> w.load(1));
        Checks.dueThrows("no text parsed", Checks.ARGUMENT, () -> w.run(1));
        Checks.due("the same code", w.errorCode() * 100 + w.errorPosition(), 217);
        Checks.dueThrows("too many steps", Checks.STATE, () -> Checks.run(w, "post 0;".repeat(61)));
        Checks.due("its code", w.errorCode() * 1000 + w.errorPosition(), 3420);
    }

    private static void noErrorCode() {
        ForkWatch w = new ForkWatch();
        Checks.due("no such call", w.errorCode(), 0);
        Checks.dueThrows("a call that did not parse", Checks.ARGUMENT, () -> w.load(-1));
        Checks.due("no such call still", w.errorCode(), 0);
        Checks.dueThrows("an error", Checks.STATE, () -> w.load(0));
        Checks.due("one", w.errorCode(), 1);
        Checks.load(w, SERVICE);
        Checks.due("none in a service", w.errorCode(), 0);
        Checks.dueThrows("an error", Checks.STATE, () -> Checks.run(w, "?"));
        Checks.due("one", w.errorCode(), 1);
        Checks.run(w, "heal 0 0;");
        Checks.due("none in a script with a refused step", w.errorCode(), 0);
    }

    private static void noErrorPosition() {
        ForkWatch w = new ForkWatch();
        Checks.due("no such call", w.errorPosition(), -1);
        Checks.dueThrows("an error", Checks.STATE, () -> w.load(0));
        Checks.due("position 0 is one", w.errorPosition(), 0);
        Checks.load(w, SERVICE);
        Checks.due("none in a service", w.errorPosition(), -1);
        Checks.dueThrows("an error", Checks.STATE, () -> Checks.run(w, " ".repeat(899) + "?"));
        Checks.due("the last byte", w.errorPosition(), 899);
        w.run(0);
        Checks.due("none in an empty script", w.errorPosition(), -1);
    }

    private static void latestRefused() {
        ForkWatch w = Checks.service(2, 1, 50);
        Checks.run(w, "heal 0 0;post 0;move 0 7;");
        Checks.due("two", w.refused(), 2);
        Checks.dueThrows("a script with an error", Checks.STATE, () -> Checks.run(w, "heal 0 0;?"));
        Checks.due("the one before", w.refused(), 2);
        Checks.dueThrows("a call that is no step", Checks.NO_SUCH, () -> w.heal(0, 0));
        Checks.due("the script still", w.refused(), 2);
        Checks.dueThrows("a service with an error", Checks.STATE, () -> w.load(0));
        Checks.due("the old service still", w.refused(), 2);
        Checks.run(w, "heal 0 0;".repeat(60));
        Checks.due("60", w.refused(), 60);
        Checks.run(w, "post 0;");
        Checks.due("none", w.refused(), 0);
    }

    private static void noneRefused() {
        ForkWatch w = new ForkWatch();
        Checks.due("without a service", w.refused(), 0);
        Checks.load(w, SERVICE);
        Checks.due("without a script", w.refused(), 0);
        Checks.run(w, "heal 0 0;");
        Checks.due("one", w.refused(), 1);
        Checks.load(w, SERVICE);
        Checks.due("a new service", w.refused(), 0);
        Checks.dueThrows("a script with an error", Checks.STATE, () -> Checks.run(w, "heal 0 0;?"));
        Checks.due("does not count", w.refused(), 0);
    }
}
