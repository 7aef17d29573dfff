/** Promises 1 to 7: a new object, feed, load, run, errorCode, errorPosition, refused. */
public final class InputTest {
    public static void main(String[] args) {
        newObject();
        feeding();
        loading();
        serviceErrors();
        running();
        scriptErrors();
        cutTexts();
        afterOtherServices();
        limits();
        spelling();
        refusals();
        errorsStay();
        Checks.finish();
    }

    private static void newObject() {
        ForkWatch w = new ForkWatch();
        Checks.due("new: clients", w.clients(), 0);
        Checks.due("new: blocks", w.blocks(), 0);
        Checks.due("new: branches", w.branches(), 0);
        Checks.due("new: blames", w.blames(), 0);
        Checks.due("new: posts", w.posts(), 0);
        Checks.due("new: forkedPairs", w.forkedPairs(), 0);
        Checks.due("new: errorCode", w.errorCode(), 0);
        Checks.due("new: errorPosition", w.errorPosition(), -1);
        Checks.due("new: refused", w.refused(), 0);
        Checks.due("new: isSigned", w.isSigned(0, 0, 1, 12376), false);
        Checks.dueThrows("new: write", Checks.NO_SUCH, () -> w.write(0, 0, -1));
        Checks.dueThrows("new: read", Checks.NO_SUCH, () -> w.read(0, 0));
        Checks.dueThrows("new: fork", Checks.ARGUMENT, () -> w.fork(1));
        Checks.dueThrows("new: heal", Checks.NO_SUCH, () -> w.heal(0, 1));
        Checks.dueThrows("new: length", Checks.NO_SUCH, () -> w.length(0));
        Checks.dueThrows("new: value", Checks.NO_SUCH, () -> w.value(0, 0));
        Checks.dueThrows("new: blame", Checks.NO_SUCH, () -> w.blame(0, 9));
        Checks.dueThrows("new: boardPost", Checks.NO_SUCH, () -> w.boardPost(0, 9));
        Checks.dueThrows("new: checkPost", Checks.NO_SUCH, () -> w.checkPost(0, 0));
    }

    private static void feeding() {
        ForkWatch w = new ForkWatch();
        for (int i = 1; i <= 45; i++) {
            Checks.due("feed " + i, w.feed(-1, 0, Integer.MIN_VALUE, 7, i), 20 * i);
        }
        Checks.dueThrows("feed beyond 900", Checks.STATE, () -> w.feed(0, 0, 0, 0, 0));
        Checks.dueThrows("feed beyond 900 again", Checks.STATE, () -> w.feed(0, 0, 0, 0, 0));
        Checks.dueThrows("load 901", Checks.ARGUMENT, () -> w.load(901));
        Checks.dueThrows("load 900 of no text", Checks.STATE, () -> w.load(900));
        Checks.due("error in the first byte", w.errorPosition(), 0);
        Checks.due("feed into the emptied buffer", w.feed(0, 0, 0, 0, 0), 20);
        // "clients 2 blocks 1 w", most significant byte first
        ForkWatch v = new ForkWatch();
        v.feed(0x636c6965, 0x6e747320, 0x3220626c, 0x6f636b73, 0x20312077);
        v.feed(0x69746e65, 0x73732031, 0x3b000000, 0xffffffff, 0);
        Checks.due("load of bytes in order", v.load(29), 2);
    }

    private static void loading() {
        ForkWatch w = new ForkWatch();
        Checks.feed(w, "clients 3 blocks 2 witness 4;");
        Checks.dueThrows("load -1", Checks.ARGUMENT, () -> w.load(-1));
        Checks.dueThrows("load 41", Checks.ARGUMENT, () -> w.load(41));
        Checks.dueThrows("load min", Checks.ARGUMENT, () -> w.load(Integer.MIN_VALUE));
        Checks.dueThrows("load max", Checks.ARGUMENT, () -> w.load(Integer.MAX_VALUE));
        Checks.due("the buffer stays", w.load(29), 3);
        Checks.dueThrows("the buffer is empty", Checks.ARGUMENT, () -> w.load(1));
        Checks.due("blocks", w.blocks(), 2);
        Checks.due("branches", w.branches(), 1);
        w.write(0, 0, 5);
        w.fork(2);
        w.write(1, 0, 5);
        w.write(2, 1, 5);
        w.exchange(1, 2);
        w.post(0);
        Checks.run(w, "heal 0 0;");
        Checks.dueThrows("a wrong service", Checks.STATE, () -> Checks.load(w, "clients 3 blocks 2;"));
        Checks.due("the old service stays", countsOf(w), 2111);
        Checks.due("suspicion stays", w.isSuspicious(1), true);
        Checks.due("a second service", Checks.load(w, "\n clients\n6 blocks 000016 witness 50 ; \n"), 6);
        Checks.due("blocks of it", w.blocks(), 16);
        Checks.due("all begins anew", countsOf(w), 1000);
        Checks.due("length", w.length(0), 0);
        for (int i = 0; i < 6; i++) {
            Checks.due("branch of " + i, w.branchOf(i), 0);
            Checks.due("position of " + i, w.receipt(i, 0), 0);
            Checks.due("hash of " + i, w.receipt(i, 1), 1);
            Checks.due("vector of " + i, w.vector(i, 0) + w.vector(i, 1), 0);
            Checks.due("suspicion of " + i, w.isSuspicious(i), false);
        }
        w.post(0);
        Checks.due("seals begin anew", w.boardPost(0, 3), Checks.seal(1, 0, 0, 1));
        Checks.due("value begins anew", w.read(0, 0), 0);
    }

    private static int countsOf(ForkWatch w) {
        return w.branches() * 1000 + w.blames() * 100 + w.posts() * 10 + w.refused();
    }

    private static void serviceErrors() {
        serviceError("", 1, 0);
        serviceError("   ", 1, 3);
        serviceError("clients", 1, 7);
        serviceError("clients ", 1, 8);
        serviceError("client 3 blocks 2 witness 3;", 1, 0);
        serviceError("clientss 3 blocks 2 witness 3;", 1, 0);
        serviceError("Clients 3 blocks 2 witness 3;", 1, 0);
        serviceError("clients3 blocks 2 witness 3;", 1, 7);
        serviceError("clients9 blocks 2 witness 3;", 1, 7);
        serviceError("clients 3blocks 2 witness 3;", 1, 9);
        serviceError("clients 9blocks 2 witness 3;", 2, 8);
        serviceError("clients 1 blocks 2 witness 3;", 2, 8);
        serviceError("clients 7 blocks 2 witness 3;", 2, 8);
        serviceError("clients 999999 blocks 2 witness 3;", 2, 8);
        serviceError("clients 0000003 blocks 2 witness 3;", 1, 8);
        serviceError("clients 99999999999 blocks 2 witness 3;", 1, 8);
        serviceError("clients ; blocks 2 witness 3;", 1, 8);
        serviceError("clients -3 blocks 2 witness 3;", 1, 8);
        serviceError("clients 3 blocks 0 witness 3;", 2, 17);
        serviceError("clients 3 blocks 17 witness 3;", 2, 17);
        serviceError("clients 3 blocks 2 witness 0;", 2, 27);
        serviceError("clients 3 blocks 2 witness 51;", 2, 27);
        serviceError("clients 3 blocks 2 witness 3", 1, 28);
        serviceError("clients 3 blocks 2 witness 3 \n", 1, 30);
        serviceError("clients 3 blocks 2 witness 3;;", 1, 29);
        serviceError("clients 3 blocks 2 witness 3; clients", 1, 30);
        serviceError("clients 3 blocks 2 witness 3;\t", 1, 29);
        serviceError("clients 3\tblocks 2 witness 3;", 1, 9);
        serviceError("clients 3\rblocks 2 witness 3;", 1, 9);
        serviceError("clients 3 blocks 2 witness 3;\u00e1", 1, 29);
        serviceError("clients 3 blocks 2 witness 3;\u0000", 1, 29);
        serviceError("clients 3 blocks 2 witness 3@", 1, 28);
        serviceError("clients 3 witness 2 blocks 3;", 1, 10);
        serviceError("clients 7 @", 2, 8);
        serviceError("0 reads 0;", 1, 0);
    }

    private static void serviceError(String text, int code, int position) {
        ForkWatch w = new ForkWatch();
        Checks.dueThrows("load " + text, Checks.STATE, () -> Checks.load(w, text));
        Checks.due("code of " + text, w.errorCode(), code);
        Checks.due("position of " + text, w.errorPosition(), position);
        Checks.due("no service by " + text, w.clients(), 0);
        Checks.due("empty buffer behind " + text, w.feed(0, 0, 0, 0, 0), 20);
    }

    private static void running() {
        ForkWatch w = new ForkWatch();
        Checks.feed(w, "post 0;");
        Checks.dueThrows("run without a service, wrong length", Checks.ARGUMENT, () -> w.run(21));
        Checks.dueThrows("run without a service", Checks.STATE, () -> w.run(7));
        Checks.dueThrows("the buffer is empty then", Checks.ARGUMENT, () -> w.run(1));
        Checks.load(w, "clients 3 blocks 2 witness 50;");
        Checks.due("empty script", w.run(0), 0);
        Checks.due("blank script", Checks.run(w, " \n\n "), 0);
        Checks.feed(w, "0 reads 0;1 reads 1;");
        Checks.dueThrows("run -1", Checks.ARGUMENT, () -> w.run(-1));
        Checks.dueThrows("run 21", Checks.ARGUMENT, () -> w.run(21));
        Checks.due("only the first bytes", w.run(10), 1);
        Checks.dueThrows("the rest is gone", Checks.ARGUMENT, () -> w.run(10));
        Checks.due("length", w.length(0), 1);
        String all = "0 writes 1 7;1 reads 1;fork 2 1;move 0 1;2 writes 0 9;rewind 1 1;corrupt 1 2 3;"
                + "exchange 0 1;post 2;heal 0 1;";
        Checks.due("a script with each step", Checks.run(w, all), 10);
        Checks.due("refused", w.refused(), 0);
        Checks.due("branches", w.branches(), 3);
        Checks.due("length of 0", w.length(0), 3);
        Checks.due("length of 1", w.length(1), 3);
        Checks.due("corrupted", w.entry(1, 2, 3), 3);
        Checks.due("merge", w.entry(2, 4, 0), 2);
        Checks.due("posts", w.posts(), 1);
        Checks.due("branch of 0", w.branchOf(0), 2);
        Checks.load(w, "clients 2 blocks 1 witness 50;");
        Checks.due("glued and wide", Checks.run(w, "\n0 reads 0\n;\n1\nwrites  0\n \n000001\n;post 1;post 0;"), 4);
        Checks.due("value", w.value(0, 0), 1);
    }

    private static void scriptErrors() {
        scriptError(";", 1, 0);
        scriptError("0 reads 0;;", 1, 10);
        scriptError("0", 1, 1);
        scriptError("3 reads 0;", 2, 0);
        scriptError("3", 2, 0);
        scriptError("0reads 0;", 1, 1);
        scriptError("0 reads 0", 1, 9);
        scriptError("0 reads 0  ", 1, 11);
        scriptError("0 reads 2;", 2, 8);
        scriptError("0 reads;", 1, 7);
        scriptError("0 reads 0 1;", 1, 10);
        scriptError("0 post 0;", 1, 2);
        scriptError("0 clients 0;", 1, 2);
        scriptError("0 1 reads 0;", 1, 2);
        scriptError("reads 0;", 1, 0);
        scriptError("blocks;", 1, 0);
        scriptError("witness;", 1, 0);
        scriptError("clients;", 1, 0);
        scriptError("writes 0 0;", 1, 0);
        scriptError("0 writes 1 1000000;", 1, 11);
        scriptError("0 writes 2 1;", 2, 9);
        scriptError("0 writes 1;", 1, 10);
        scriptError("0 writes 1 5 5;", 1, 13);
        scriptError("fork;", 1, 4);
        scriptError("fork 3;", 2, 5);
        scriptError("fork 0 1 2 0 3;", 2, 13);
        scriptError("fork 0 1", 1, 8);
        scriptError("fork 0 reads 0;", 1, 7);
        scriptError("fork 0 0000000;", 1, 7);
        scriptError("move 3 0;", 2, 5);
        scriptError("move 0 8;", 2, 7);
        scriptError("move 0;", 1, 6);
        scriptError("rewind 8 1;", 2, 7);
        scriptError("rewind 0 0;", 2, 9);
        scriptError("rewind 0 201;", 2, 9);
        scriptError("corrupt 8 1 1;", 2, 8);
        scriptError("corrupt 0 0 1;", 2, 10);
        scriptError("corrupt 0 201 1;", 2, 10);
        scriptError("corrupt 0 1;", 1, 11);
        scriptError("exchange 0 3;", 2, 11);
        scriptError("exchange 3 0;", 2, 9);
        scriptError("exchange 0;", 1, 10);
        scriptError("post 3;", 2, 5);
        scriptError("post0;", 1, 4);
        scriptError("post 0 1;", 1, 7);
        scriptError("heal 8 0;", 2, 5);
        scriptError("heal 0 8;", 2, 7);
        scriptError("heals 0 1;", 1, 0);
        scriptError("calm 0;", 1, 0);
        scriptError("post 0;post 1;?", 1, 14);
        scriptError("post 0,post 1;", 1, 6);
        scriptError("post 0;Post 1;", 1, 7);
        scriptError("clients 3 blocks 2 witness 3;", 1, 0);
    }

    private static void scriptError(String text, int code, int position) {
        ForkWatch w = Checks.service(3, 2, 50);
        Checks.dueThrows("run " + text, Checks.STATE, () -> Checks.run(w, "post 2;" + text));
        Checks.due("code of " + text, w.errorCode(), code);
        Checks.due("position of " + text, w.errorPosition(), position + 7);
        Checks.due("no step of " + text, w.posts() + w.length(0), 0);
        Checks.due("empty buffer behind " + text, w.feed(0, 0, 0, 0, 0), 20);
    }

    /** The text ends where the length says, though the buffer goes on. */
    private static void cutTexts() {
        ForkWatch w = new ForkWatch();
        Checks.feed(w, "clients 3 blocks 2 witness 51;");
        Checks.dueThrows("a number is cut", Checks.STATE, () -> w.load(28));
        Checks.due("code of the cut number", w.errorCode(), 1);
        Checks.due("position of the cut number", w.errorPosition(), 28);
        Checks.load(w, "clients 3 blocks 2 witness 5;");
        Checks.feed(w, "0 writesx 0 0;");
        Checks.dueThrows("a word is cut", Checks.STATE, () -> w.run(8));
        Checks.due("position of the cut word", w.errorPosition(), 8);
        for (String sign : new String[] {";", "1", "a", "@", " ", "a1", ";;1 "}) {
            Checks.feed(w, sign.repeat(900 / sign.length()));
            Checks.dueThrows("900 times " + sign, Checks.STATE, () -> w.load(900));
            Checks.due("code of 900 times " + sign, w.errorCode(), 1);
            Checks.due("position of 900 times " + sign, w.errorPosition(), sign.equals(" ") ? 900 : 0);
        }
        Checks.due("fork with many clients", Checks.run(w, "fork" + " 2".repeat(447) + ";"), 1);
    }

    /** Neither a wrong service nor an old one changes what a script may say, nor what operations count. */
    private static void afterOtherServices() {
        ForkWatch w = Checks.service(3, 2, 3);
        Checks.dueThrows("a wrong service", Checks.STATE, () -> Checks.load(w, "clients 6 blocks 9 witness 7"));
        Checks.dueThrows("client of the wrong one", Checks.STATE, () -> Checks.run(w, "post 3;"));
        Checks.dueThrows("block of the wrong one", Checks.STATE, () -> Checks.run(w, "0 reads 2;"));
        Checks.due("code", w.errorCode(), 2);
        Checks.due("two operations", Checks.run(w, "0 reads 1;0 reads 1;"), 2);
        Checks.load(w, "clients 2 blocks 1 witness 3;");
        Checks.dueThrows("client of the old one", Checks.STATE, () -> Checks.run(w, "post 2;"));
        Checks.due("two operations more", Checks.run(w, "0 reads 0;0 reads 0;"), 2);
        Checks.due("they count anew", w.posts(), 0);
        w.read(0, 0);
        Checks.due("the third one posts", w.posts(), 1);
    }

    private static void limits() {
        String sixty = "post 0;".repeat(60);
        ForkWatch w = Checks.service(3, 2, 50);
        Checks.due("60 steps", Checks.run(w, sixty + " \n"), 60);
        limitError(sixty + " post 0;", 3, 421);
        limitError(sixty + "fork", 3, 420);
        limitError(sixty + "2", 3, 420);
        limitError(sixty + "3 reads 0;", 2, 420);
        limitError(sixty + "0000000 reads 0;", 1, 420);
        limitError(sixty + "reads", 1, 420);
        limitError(sixty + ";", 1, 420);
        limitError(sixty + "!", 1, 420);
        limitError("post 3;" + sixty, 2, 5);
        limitError("post 0;".repeat(120), 3, 420);
    }

    private static void limitError(String text, int code, int position) {
        ForkWatch w = Checks.service(3, 2, 50);
        Checks.dueThrows("run behind 60 steps", Checks.STATE, () -> Checks.run(w, text));
        Checks.due("code behind 60 steps", w.errorCode(), code);
        Checks.due("position behind 60 steps", w.errorPosition(), position);
        Checks.due("no step done", w.posts(), 0);
    }

    /** Each word with one letter less, more or changed is another word. */
    private static void spelling() {
        String[] steps = {"0 writes 0 0;", "0 reads 0;", "fork 0;", "move 0 0;", "rewind 0 1;", "corrupt 0 1 0;",
            "exchange 0 1;", "post 0;", "heal 0 1;"};
        for (String step : steps) {
            ForkWatch w = Checks.service(2, 1, 1);
            String word = step.replaceAll("[^a-z]", "");
            int at = step.indexOf(word);
            Checks.run(w, step);
            Checks.due("no error in " + step, w.errorCode() * 10 + w.errorPosition(), -1);
            String[] others = {word.substring(1), word.substring(0, word.length() - 1), word + "s", word + "z",
                word.substring(0, word.length() - 1) + "z"};
            for (String other : others) {
                Checks.dueThrows("the word " + other, Checks.STATE, () -> Checks.run(w, step.replace(word, other)));
                Checks.due("code of the word " + other, w.errorCode(), 1);
                Checks.due("position of the word " + other, w.errorPosition(), at);
            }
        }
    }

    private static void refusals() {
        ForkWatch w = Checks.service(3, 2, 50);
        String wrong = "move 0 1;rewind 0 1;corrupt 0 1 5;exchange 1 1;heal 0 0;heal 0 1;";
        Checks.due("all refused", Checks.run(w, wrong), 0);
        Checks.due("refused", w.refused(), 6);
        String edges = "move 0 7;rewind 7 200;corrupt 7 200 999999;heal 7 0;heal 0 7;";
        Checks.due("the greatest numbers", Checks.run(w, edges), 0);
        Checks.due("are refused only", w.refused(), 5);
        String mixed = "0 writes 0 1;rewind 0 1;0 reads 0;1 reads 0;0 reads 0;";
        Checks.due("script with refused steps", Checks.run(w, mixed), 3);
        Checks.due("refused then", w.refused(), 2);
        Checks.due("the blame of the refused step stays", w.blames(), 1);
        Checks.due("and the suspicion", w.isSuspicious(0), true);
        Checks.dueThrows("a wrong script", Checks.STATE, () -> Checks.run(w, "heal 0 0;heal 0"));
        Checks.due("refused stays", w.refused(), 2);
        Checks.dueThrows("a wrong length", Checks.ARGUMENT, () -> w.run(1));
        Checks.due("refused stays still", w.refused(), 2);
        Checks.due("an empty script", w.run(0), 0);
        Checks.due("none refused", w.refused(), 0);
        Checks.due("a set with doubles", Checks.run(w, "fork 1 2 1 2 2 1 1 1 1 1;fork 0 1;"), 1);
        Checks.due("branch of 1", w.branchOf(1), 1);
        Checks.due("branch of 0", w.branchOf(0), 0);
        Checks.due("one refused", w.refused(), 1);
        Checks.dueThrows("a wrong service", Checks.STATE, () -> w.load(0));
        Checks.due("one refused still", w.refused(), 1);
        Checks.load(w, "clients 2 blocks 1 witness 1;");
        Checks.due("none since the service was loaded", w.refused(), 0);
    }

    private static void errorsStay() {
        ForkWatch w = new ForkWatch();
        Checks.dueThrows("wrong service", Checks.STATE, () -> Checks.load(w, "clients 9"));
        Checks.due("code", w.errorCode(), 2);
        Checks.dueThrows("wrong length of a service", Checks.ARGUMENT, () -> w.load(1));
        Checks.dueThrows("wrong length of a script", Checks.ARGUMENT, () -> w.run(-1));
        Checks.dueThrows("no service", Checks.STATE, () -> Checks.run(w, "post 0;"));
        Checks.due("code stays", w.errorCode(), 2);
        Checks.due("position stays", w.errorPosition(), 8);
        Checks.load(w, "clients 2 blocks 1 witness 1;");
        Checks.due("code of none", w.errorCode(), 0);
        Checks.due("position of none", w.errorPosition(), -1);
        Checks.dueThrows("wrong script", Checks.STATE, () -> Checks.run(w, "post 0"));
        Checks.due("code of the script", w.errorCode(), 1);
        Checks.due("position of the script", w.errorPosition(), 6);
        Checks.due("a refused step", Checks.run(w, "heal 0 0;"), 0);
        Checks.due("is no error", w.errorCode(), 0);
        Checks.due("and has no position", w.errorPosition(), -1);
    }
}
