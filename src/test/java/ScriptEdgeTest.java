import java.io.IOException;
import java.util.ArrayList;
import java.util.List;

/** The boundary cases of section 5, SCRIPTS, sentence by sentence. */
public final class ScriptEdgeTest {
    private static final int SYNTAX = 1;
    private static final int RANGE = 2;
    private static final int LIMIT = 3;
    private static final String SERVICE = "clients 3 blocks 2 witness 4 ;";
    private static final String[] STEPS = {"0 writes 0 0 ;", "0 reads 0 ;", "fork 0 ;", "fork 0 0 ;", "fork 0 0 0 ;",
        "move 0 0 ;", "rewind 1 1 ;", "corrupt 1 1 1 ;", "exchange 0 0 ;", "post 0 ;", "heal 0 0 ;"};
    private static final String[] WORDS = {"clients", "blocks", "witness", "writes", "reads", "fork", "move", "rewind",
        "corrupt", "exchange", "post", "heal", "calm", "a", "1", ";"};

    public static void main(String[] args) throws IOException {
        Edges.open(args);
        Edges.edge("({ X } means any number of X)", ScriptEdgeTest::anyNumber);
        Edges.edge("C is 2 to 6, N 1 to 16, INTERVAL 1 to 50.", ScriptEdgeTest::rangesOfServices);
        Edges.edge("CLIENT is a client, BLOCK a block, VALUE 0 to 999999, BRANCH 0 to 7, COUNT 1 to 200, POSITION 1 to "
            + "200.", ScriptEdgeTest::rangesOfSteps);
        Edges.edge("A script has at most 60 steps.", ScriptEdgeTest::sixtySteps);
        Edges.edge("The steps are the calls of the methods write, read, fork (with the set of the clients), move, "
            + "rewind, corrupt, exchange, post and heal, in order", ScriptEdgeTest::calls);
        Edges.edge("a step whose call would throw an exception is refused, with all that this call does, and the "
            + "script goes on.", ScriptEdgeTest::refusedSteps);
        Edges.edge("A token is a word (a run of letters a to z), a number (a run of digits), or the sign ; and is as "
            + "long as possible.", ScriptEdgeTest::tokens);
        Edges.edge("Spaces (byte 32) and line feeds (byte 10) may stand between any two tokens and at both ends.",
            ScriptEdgeTest::blanks);
        Edges.edge("A word or number directly behind a word or number needs at least one of them between.",
            ScriptEdgeTest::neededBlanks);
        Edges.edge("The error with the least position (byte index from 0) is reported", ScriptEdgeTest::leastPosition);
        Edges.edge("of several at one position the least code", ScriptEdgeTest::leastCode);
        Edges.edge("1 SYNTAX: a token that the grammar does not allow there", ScriptEdgeTest::wrongTokens);
        Edges.edge("a word or number directly behind a word or number;", ScriptEdgeTest::directlyBehind);
        Edges.edge("a number of more than 6 digits", ScriptEdgeTest::digits);
        Edges.edge("any other byte", ScriptEdgeTest::otherBytes);
        Edges.edge("the end of the text where more is needed (position: the length)", ScriptEdgeTest::ends);
        Edges.edge("2 RANGE: a number out of its range.", ScriptEdgeTest::ranges);
        Edges.edge("3 LIMIT: the first token of a 61st step.", ScriptEdgeTest::limit);
        Checks.finish();
    }

    /** Three clients and two blocks; code 0 is no error, and the position is -1 then. */
    private static void dueScript(String text, int code, int position) {
        ForkWatch w = Checks.service(3, 2, 50);
        int length = Checks.feed(w, text);
        if (code == 0) {
            w.run(length);
        } else {
            Checks.dueThrows("run of " + text, Checks.STATE, () -> w.run(length));
        }
        Checks.due("code of " + text, w.errorCode(), code);
        Checks.due("position of " + text, w.errorPosition(), position);
    }

    private static void dueService(String text, int code, int position) {
        ForkWatch w = new ForkWatch();
        int length = Checks.feed(w, text);
        if (code == 0) {
            w.load(length);
        } else {
            Checks.dueThrows("load of " + text, Checks.STATE, () -> w.load(length));
        }
        Checks.due("code of " + text, w.errorCode(), code);
        Checks.due("position of " + text, w.errorPosition(), position);
    }

    private static void anyNumber() {
        ForkWatch w = Checks.service(6, 1, 50);
        Checks.due("no step", w.run(0), 0);
        Checks.due("one step", Checks.run(w, "post 0;"), 1);
        Checks.due("two steps", Checks.run(w, "post 0;post 1;"), 2);
        Checks.due("posts", w.posts(), 3);
        Checks.due("fork with one client", Checks.run(w, "fork 5;"), 1);
        Checks.due("fork with five", Checks.run(w, "fork 4 3 2 1 0;"), 1);
        Checks.due("branches", w.branchOf(5) * 10 + w.branchOf(0), 12);
        Checks.due("fork with one client many times", Checks.run(w, "fork" + " 3".repeat(447) + ";"), 1);
        Checks.due("branch of 3", w.branchOf(3), 3);
        dueScript("fork;", SYNTAX, 4);
        dueService("", SYNTAX, 0);
        dueService(SERVICE + SERVICE, SYNTAX, SERVICE.length());
    }

    private static void rangesOfServices() {
        for (int number = 0; number <= 60; number++) {
            dueService("clients " + number + " blocks 1 witness 1;", number < 2 || number > 6 ? RANGE : 0,
                number < 2 || number > 6 ? 8 : -1);
            dueService("clients 2 blocks " + number + " witness 1;", number < 1 || number > 16 ? RANGE : 0,
                number < 1 || number > 16 ? 17 : -1);
            dueService("clients 2 blocks 1 witness " + number + ";", number < 1 || number > 50 ? RANGE : 0,
                number < 1 || number > 50 ? 27 : -1);
        }
        for (String start : new String[] {"clients ", "clients 2 blocks ", "clients 2 blocks 1 witness "}) {
            dueService(start + "999999", RANGE, start.length());
        }
    }

    /** Tries a number at its place: the greatest and the least allowed, and one beyond each. */
    private static void dueRange(String before, int least, int greatest, String behind) {
        dueScript(before + least + behind, 0, -1);
        dueScript(before + greatest + behind, 0, -1);
        dueScript(before + (greatest + 1) + behind, greatest == 999999 ? SYNTAX : RANGE, before.length());
        if (least > 0) {
            dueScript(before + (least - 1) + behind, RANGE, before.length());
        }
        if (greatest < 999999) {
            dueScript(before + 999999 + behind, RANGE, before.length());
        }
    }

    private static void rangesOfSteps() {
        dueRange("", 0, 2, " reads 0;");
        dueRange("", 0, 2, " writes 0 0;");
        dueRange("0 reads ", 0, 1, ";");
        dueRange("0 writes ", 0, 1, " 0;");
        dueRange("0 writes 0 ", 0, 999999, ";");
        dueRange("fork ", 0, 2, ";");
        dueRange("fork 0 1 2 1 ", 0, 2, " 0;");
        dueRange("move ", 0, 2, " 0;");
        dueRange("move 0 ", 0, 7, ";");
        dueRange("rewind ", 0, 7, " 1;");
        dueRange("rewind 0 ", 1, 200, ";");
        dueRange("corrupt ", 0, 7, " 1 0;");
        dueRange("corrupt 0 ", 1, 200, " 0;");
        dueRange("corrupt 0 1 ", 0, 999999, ";");
        dueRange("exchange ", 0, 2, " 0;");
        dueRange("exchange 0 ", 0, 2, ";");
        dueRange("post ", 0, 2, ";");
        dueRange("heal ", 0, 7, " 0;");
        dueRange("heal 0 ", 0, 7, ";");
        // The clients and blocks of a script are those of the service, whatever the greatest service may have.
        for (int clients = 2; clients <= 6; clients++) {
            ForkWatch w = Checks.service(clients, 3 * clients - 2, 50);
            String last = "post " + (clients - 1) + ";0 reads " + (3 * clients - 3) + ";";
            Checks.due("the last client and block", Checks.run(w, last), 2);
            String client = "post " + clients + ";";
            Checks.dueThrows("one client more", Checks.STATE, () -> Checks.run(w, client));
            Checks.due("code", w.errorCode() * 10 + w.errorPosition(), 25);
            String block = "0 reads " + (3 * clients - 2) + ";";
            Checks.dueThrows("one block more", Checks.STATE, () -> Checks.run(w, block));
            Checks.due("code", w.errorCode() * 10 + w.errorPosition(), 28);
        }
    }

    private static void sixtySteps() {
        ForkWatch w = Checks.service(3, 1, 50);
        Checks.due("59", Checks.run(w, "0 reads 0;".repeat(59)), 59);
        Checks.due("60", Checks.run(w, "0 reads 0;".repeat(60)), 60);
        Checks.due("60 refused ones", Checks.run(w, "heal 0 0;".repeat(60)) + w.refused(), 60);
        Checks.dueThrows("61", Checks.STATE, () -> Checks.run(w, "0 reads 0;".repeat(61)));
        Checks.due("none of the 61 is done", w.length(0), 119);
        Checks.due("60 of many tokens", Checks.run(w, "0 writes 0 1;".repeat(60)), 60);
        Checks.due("entries", w.length(0), 179);
    }

    private static void calls() {
        ForkWatch w = Checks.service(3, 2, 50);
        String script = "0 writes 1 7;1 reads 1;fork 2 1;move 0 1;2 writes 0 9;rewind 1 1;corrupt 1 1 3;exchange 0 1;"
            + "post 2;heal 0 1;";
        Checks.due("one of each", Checks.run(w, script), 10);
        Checks.due("refused", w.refused(), 0);
        ForkWatch v = Checks.service(3, 2, 50);
        v.write(0, 1, 7);
        v.read(1, 1);
        v.fork(6);
        v.move(0, 1);
        v.write(2, 0, 9);
        v.rewind(1, 1);
        v.corrupt(1, 1, 3);
        v.exchange(0, 1);
        v.post(2);
        v.heal(0, 1);
        Checks.due("the state by the calls", Snapshot.of(w), Snapshot.of(v));
        ForkWatch u = Checks.service(2, 1, 50);
        Checks.run(u, "0 writes 0 1;0 writes 0 2;");
        Checks.due("in order", u.value(0, 0), 2);
    }

    private static void refusedSteps() {
        ForkWatch w = Checks.service(3, 2, 50);
        String script = "0 writes 0 5;move 0 1;rewind 0 2;rewind 0 1;0 writes 0 6;0 writes 0 7;1 writes 1 8;heal 0 0;";
        Checks.due("not refused", Checks.run(w, script), 3);
        Checks.due("refused", w.refused(), 5);
        Checks.due("the blame record of the first refused write", w.blames(), 1);
        Checks.due("its kind", w.blame(0, 0), 1);
        Checks.due("the suspicion", w.isSuspicious(0), true);
        Checks.due("the script went on", w.value(0, 1), 8);
        ForkWatch v = Checks.service(2, 1, 50);
        Checks.readOften(v, 0, 199);
        Checks.due("a full branch amid a script", Checks.run(v, "0 reads 0;0 reads 0;1 reads 0;post 0;"), 2);
        Checks.due("refused", v.refused(), 2);
        Checks.due("no record", v.blames(), 0);
        ForkWatch u = Checks.service(2, 1, 50);
        Checks.due("a ninth branch", Checks.run(u, "fork 0;".repeat(9)), 7);
        Checks.due("refused", u.refused(), 2);
        Checks.due("two branches at once", Checks.run(u, "fork 0 1;exchange 0 0;corrupt 0 1 0;move 1 7;"), 1);
        Checks.due("refused", u.refused(), 3);
    }

    private static void tokens() {
        dueScript("posts 0;", SYNTAX, 0);
        dueScript("pos t 0;", SYNTAX, 0);
        dueScript("postpost 0;", SYNTAX, 0);
        dueScript("post 00;", 0, -1);
        dueScript("post 10;", RANGE, 5);
        dueScript("post 1 0;", SYNTAX, 7);
        dueScript("post 1;;", SYNTAX, 7);
        dueScript("fork 01;", 0, -1);
        ForkWatch w = Checks.service(3, 2, 50);
        Checks.run(w, "fork 01 2;");
        Checks.due("01 is one number", w.branchOf(0) * 100 + w.branchOf(1) * 10 + w.branchOf(2), 11);
        Checks.run(w, "0 writes 0 000012;");
        Checks.due("000012", w.value(0, 0), 12);
        dueScript("postz 0;", SYNTAX, 0);
        dueScript("posta 0;", SYNTAX, 0);
        dueScript("post 0;a", SYNTAX, 7);
        dueScript("post 9;", RANGE, 5);
        dueScript(";".repeat(900), SYNTAX, 0);
        dueScript("1;".repeat(450), SYNTAX, 1);
        dueScript("?".repeat(900), SYNTAX, 0);
        dueService(";".repeat(900), SYNTAX, 0);
        dueScript("post `;", SYNTAX, 5);
        dueScript("post {;", SYNTAX, 5);
        dueScript("post /;", SYNTAX, 5);
        dueScript("post :;", SYNTAX, 5);
    }

    private static void blanks() {
        String[] blanks = {" ", "\n", "  ", "\n\n", " \n \n "};
        for (String blank : blanks) {
            dueService(blank + SERVICE.replace(" ", blank) + blank, 0, -1);
            for (String step : STEPS) {
                dueScript(blank + step.replace(" ", blank) + blank + step.replace(" ", blank) + blank, 0, -1);
            }
            dueScript(blank, 0, -1);
            dueService(blank, SYNTAX, blank.length());
        }
        dueScript("post 0;post 1 ;post 2\n; post 0;\npost 0;", 0, -1);
        dueScript(" ".repeat(893) + "post 0;", 0, -1);
        dueScript("post 0;" + "\n".repeat(893), 0, -1);
    }

    private static void neededBlanks() {
        dueService("clients 3 blocks 2 witness 4;", 0, -1);
        String[] texts = {"clients3 blocks 2 witness 4;", "clients 3blocks 2 witness 4;",
            "clients 3 blocks2 witness 4;", "clients 3 blocks 2witness 4;", "clients 3 blocks 2 witness4;"};
        int[] places = {7, 9, 16, 18, 26};
        for (int at = 0; at < texts.length; at++) {
            dueService(texts[at], SYNTAX, places[at]);
        }
        dueScript("0 reads 0;0 reads 0;", 0, -1);
        dueScript("0reads 0;", SYNTAX, 1);
        dueScript("0 reads0;", SYNTAX, 7);
        dueScript("post 0;1 reads0;", SYNTAX, 14);
        dueScript("fork 0 1fork", SYNTAX, 8);
        dueScript("post 0post 0;", SYNTAX, 6);
    }

    private static void leastPosition() {
        dueScript("post 3;?", RANGE, 5);
        dueScript("post ?;post 3;", SYNTAX, 5);
        dueScript("post 0;post 3;post 4;", RANGE, 12);
        dueScript("?", SYNTAX, 0);
        dueScript(" ?", SYNTAX, 1);
        dueScript("post 9post 0;", RANGE, 5);
        dueScript("0 reads 2", RANGE, 8);
        dueScript("post 0;".repeat(61) + "?", LIMIT, 420);
        dueScript("post 0;".repeat(60) + "? post 0;", SYNTAX, 420);
        dueScript("post 0;".repeat(59) + "post 3;post 0;", RANGE, 418);
        dueService("clients 1 blocks 0 witness 0;", RANGE, 8);
        dueService("clients 2 blocks 0 witness 0", RANGE, 17);
        dueService("clients 2 blocks 1 witness 0;;", RANGE, 27);
    }

    private static void leastCode() {
        String sixty = "post 0;".repeat(60);
        dueScript(sixty + "3 reads 0;", RANGE, 420);
        dueScript(sixty + "999999", RANGE, 420);
        dueScript(sixty + "2 reads 0;", LIMIT, 420);
        dueScript(sixty + "reads 0;", SYNTAX, 420);
        dueScript(sixty + "blocks", SYNTAX, 420);
        dueScript(sixty + ";", SYNTAX, 420);
        dueScript(sixty + "0000003 reads 0;", SYNTAX, 420);
        dueScript(sixty + "#", SYNTAX, 420);
        // A number that is too long, out of its range, or not allowed at all.
        dueScript("post 3333333;", SYNTAX, 5);
        dueScript("post 0 9;", SYNTAX, 7);
        dueScript("post3;", SYNTAX, 4);
        dueService("clients9 blocks 2 witness 4;", SYNTAX, 7);
        dueService("9", SYNTAX, 0);
    }

    /** Behind each beginning of each step, each token is either the beginning of a step again or wrong. */
    private static void wrongTokens() {
        List<String> starts = new ArrayList<>();
        for (String step : STEPS) {
            for (int end = 0; end >= 0; end = step.indexOf(' ', end + 1)) {
                starts.add(step.substring(0, end).trim());
            }
        }
        for (String start : starts) {
            for (String word : WORDS) {
                String text = (start + " " + word).trim();
                String behind = "post 0; " + text;
                boolean allowed = isStart(shapeOf(text));
                int length = behind.length();
                boolean whole = text.endsWith(";");
                int code = allowed && whole ? 0 : SYNTAX;
                int position = allowed ? (whole ? -1 : length) : length - word.length();
                dueScript(behind, code, position);
            }
        }
        String[] tokens = SERVICE.split(" ");
        String before = "";
        for (String token : tokens) {
            for (String word : WORDS) {
                if (!shapeOf(word).equals(shapeOf(token))) {
                    dueService(before + word + " 2", SYNTAX, before.length());
                }
            }
            before += token + " ";
        }
        for (String word : WORDS) {
            dueService(before + word, SYNTAX, before.length());
        }
    }

    private static String shapeOf(String text) {
        return text.replaceAll("[0-9]+", "0");
    }

    private static boolean isStart(String shape) {
        for (String step : STEPS) {
            if ((shapeOf(step) + " ").startsWith(shape + " ")) {
                return true;
            }
        }
        return shape.matches("fork( 0)+( ;)?");
    }

    private static void directlyBehind() {
        dueScript("post0;", SYNTAX, 4);
        dueScript("0reads 0;", SYNTAX, 1);
        dueScript("0 reads0;", SYNTAX, 7);
        dueScript("fork 0 1a;", SYNTAX, 8);
        dueScript("post 0a;", SYNTAX, 6);
        dueScript("post 0;post1", SYNTAX, 11);
        dueScript("post 0;1reads 0;", SYNTAX, 8);
        // The sign needs nothing between, nor does what comes behind it.
        dueScript("post 0;post 0;1 reads 0;", 0, -1);
    }

    private static void digits() {
        dueScript("0 writes 0 999999;", 0, -1);
        dueScript("0 writes 0 000000;", 0, -1);
        dueScript("0 writes 0 0000000;", SYNTAX, 11);
        dueScript("0 writes 0 1000000;", SYNTAX, 11);
        dueScript("0 writes 0 4294967296;", SYNTAX, 11);
        dueScript("0 writes 0 " + "9".repeat(800) + ";", SYNTAX, 11);
        dueScript("000001 reads 000001;", 0, -1);
        dueScript("0000001 reads 1;", SYNTAX, 0);
        dueService("clients 000002 blocks 000001 witness 000050;", 0, -1);
        dueService("clients 0000002 blocks 1 witness 50;", SYNTAX, 8);
        dueService("clients 2 blocks 18446744073709551617 witness 50;", SYNTAX, 17);
    }

    private static void otherBytes() {
        for (int sign = 0; sign < 256; sign++) {
            boolean blank = sign == 32 || sign == 10;
            boolean ofToken = sign >= 'a' && sign <= 'z' || sign >= '0' && sign <= '9' || sign == ';';
            String text = "post 0;" + (char) sign;
            if (!ofToken) {
                dueScript(text, blank ? 0 : SYNTAX, blank ? -1 : 7);
                dueScript("post" + (char) sign + "0;", blank ? 0 : SYNTAX, blank ? -1 : 4);
                dueService(SERVICE + (char) sign, blank ? 0 : SYNTAX, blank ? -1 : SERVICE.length());
                dueService((char) sign + SERVICE, blank ? 0 : SYNTAX, blank ? -1 : 0);
            }
        }
    }

    /** Each text that ends too soon, whatever the buffer has behind its end. */
    private static void ends() {
        String service = SERVICE + "  ";
        for (int length = 0; length <= service.length(); length++) {
            ForkWatch w = new ForkWatch();
            Checks.feed(w, service);
            int cut = length;
            if (length < SERVICE.length()) {
                Checks.dueThrows("load " + length, Checks.STATE, () -> w.load(cut));
                boolean inWord = length > 0 && service.substring(0, length).matches("(.* )?[a-z]+")
                    && !service.substring(length, length + 1).equals(" ");
                int wordStart = service.substring(0, length).lastIndexOf(' ') + 1;
                Checks.due("position of the end at " + length, w.errorPosition(), inWord ? wordStart : length);
                Checks.due("code", w.errorCode(), SYNTAX);
            } else {
                Checks.due("load " + length, w.load(cut), 3);
            }
        }
        dueScript("post", SYNTAX, 4);
        dueScript("post ", SYNTAX, 5);
        dueScript("post 0", SYNTAX, 6);
        dueScript("post 0 \n ", SYNTAX, 9);
        dueScript("post 0;0", SYNTAX, 8);
        dueScript("post 0;0 reads", SYNTAX, 14);
        dueScript("fork 0 1 2", SYNTAX, 10);
        dueScript("post 0;".repeat(59) + "post 0", SYNTAX, 419);
        dueScript(" ".repeat(900 - 6) + "post 0", SYNTAX, 900);
    }

    private static void ranges() {
        dueScript("post 3;", RANGE, 5);
        dueScript("3 reads 0;", RANGE, 0);
        dueScript("0 reads 2;", RANGE, 8);
        dueScript("rewind 0 0;", RANGE, 9);
        dueScript("corrupt 0 201 0;", RANGE, 10);
        dueService("clients 7", RANGE, 8);
        dueService("clients 000001 blocks", RANGE, 8);
        // A branch or an entry that does not exist is no error of the text.
        dueScript("move 0 7;corrupt 7 200 0;rewind 7 200;heal 7 6;exchange 1 1;", 0, -1);
    }

    private static void limit() {
        String sixty = "0 reads 0;".repeat(60);
        String[] firsts = {"0", "2", "fork", "move", "rewind", "corrupt", "exchange", "post", "heal"};
        for (String first : firsts) {
            dueScript(sixty + first, LIMIT, 600);
            dueScript(sixty + " \n" + first + " ?", LIMIT, 602);
        }
        dueScript(sixty, 0, -1);
        dueScript(sixty + "\n \n", 0, -1);
        dueScript("0 reads 0;".repeat(90), LIMIT, 600);
    }
}
