import java.nio.charset.StandardCharsets;
import java.util.ArrayList;
import java.util.Arrays;
import java.util.List;
import java.util.NoSuchElementException;
import java.util.TreeSet;
import java.util.regex.Matcher;
import java.util.regex.Pattern;

/** The document once more, in the plainest form: lists, exceptions for refused steps, and no regard for speed. */
final class Model {
    record Entry(int kind, int client, int block, int value, long link, long hash) {
    }

    record Blame(int kind, int client, int other, int position, long first, long second) {
    }

    record Post(int client, int position, long hash, long seal) {
    }

    static final class Viewer {
        List<Long> hashes = new ArrayList<>(List.of(1L));
        int[] vector = new int[6];
        int branch = 0;
        int operations = 0;
        boolean suspicious = false;

        int position() {
            return hashes.size() - 1;
        }
    }

    private final StringBuilder buffer = new StringBuilder();
    private List<List<Entry>> branches = new ArrayList<>();
    private List<Viewer> viewers = new ArrayList<>();
    private List<Blame> blames = new ArrayList<>();
    private List<Post> board = new ArrayList<>();
    private int blockCount = 0;
    private int interval = 1;
    private long seal = 1;
    private int code = 0;
    private int place = -1;
    private int refusedSteps = 0;

    // ---- texts

    int feed(int a, int b, int c, int d, int e) {
        if (buffer.length() + 20 > 900) {
            throw new IllegalStateException();
        }
        for (int word : new int[] {a, b, c, d, e}) {
            byte[] bytes = {(byte) (word >> 24), (byte) (word >> 16), (byte) (word >> 8), (byte) word};
            buffer.append(new String(bytes, StandardCharsets.ISO_8859_1));
        }
        return buffer.length();
    }

    private String take(int length) {
        if (length < 0 || length > buffer.length()) {
            throw new IllegalArgumentException();
        }
        String text = buffer.substring(0, length);
        buffer.setLength(0);
        return text;
    }

    /** Errors as position * 10 + code, so that the least one is the one to report. */
    private void report(TreeSet<Integer> errors) {
        code = errors.isEmpty() ? 0 : errors.first() % 10;
        place = errors.isEmpty() ? -1 : errors.first() / 10;
        if (code != 0) {
            throw new IllegalStateException();
        }
    }

    record Token(String text, int start) {
    }

    /** All tokens; those that are wrong wherever they stand are errors at once. */
    private static List<Token> split(String text, TreeSet<Integer> errors) {
        List<Token> tokens = new ArrayList<>();
        Matcher matcher = Pattern.compile("[a-z]+|[0-9]+|;|[ \n]+|.", Pattern.DOTALL).matcher(text);
        boolean behind = false;
        while (matcher.find()) {
            String token = matcher.group();
            boolean run = token.matches("[a-z]+|[0-9]+");
            boolean wrong = run && behind || token.matches("[0-9]{7,}") || !run && !token.matches(";|[ \n]+");
            if (wrong) {
                errors.add(matcher.start() * 10 + 1);
            }
            if (!token.isBlank() || wrong) {
                tokens.add(new Token(token, matcher.start()));
            }
            behind = run;
        }
        tokens.add(new Token("", text.length()));
        return tokens;
    }

    private static boolean isNumber(Token token) {
        return token.text().matches("[0-9]{1,6}");
    }

    /** Follows a pattern of words and ranges ("2-6"); answers where the next token stands, -1 behind an error. */
    private static int follow(List<Token> tokens, int from, String pattern, TreeSet<Integer> errors,
            List<Integer> out) {
        int at = from;
        for (String want : pattern.split(" ")) {
            Token token = tokens.get(Math.min(at, tokens.size() - 1));
            if (want.contains("-")) {
                int low = Integer.parseInt(want.split("-")[0]);
                int high = Integer.parseInt(want.split("-")[1]);
                if (!isNumber(token)) {
                    errors.add(token.start() * 10 + 1);
                    return -1;
                }
                int number = Integer.parseInt(token.text());
                if (number < low || number > high) {
                    errors.add(token.start() * 10 + 2);
                    return -1;
                }
                out.add(number);
            } else if (!token.text().equals(want)) {
                errors.add(token.start() * 10 + 1);
                return -1;
            }
            at++;
        }
        return at;
    }

    int load(int length) {
        String text = take(length);
        TreeSet<Integer> errors = new TreeSet<>();
        List<Token> tokens = split(text, errors);
        List<Integer> numbers = new ArrayList<>();
        int end = follow(tokens, 0, "clients 2-6 blocks 1-16 witness 1-50 ;", errors, numbers);
        if (end >= 0 && end < tokens.size() - 1) {
            errors.add(tokens.get(end).start() * 10 + 1);
        }
        report(errors);
        viewers = new ArrayList<>();
        for (int i = 0; i < numbers.get(0); i++) {
            viewers.add(new Viewer());
        }
        blockCount = numbers.get(1);
        interval = numbers.get(2);
        branches = new ArrayList<>();
        branches.add(new ArrayList<>());
        blames = new ArrayList<>();
        board = new ArrayList<>();
        seal = 1;
        refusedSteps = 0;
        return viewers.size();
    }

    private String patternOf(List<Token> tokens, int at) {
        String client = "0-" + (viewers.size() - 1);
        String block = "0-" + (blockCount - 1);
        Token token = tokens.get(at);
        if (isNumber(token)) {
            boolean reads = at + 1 < tokens.size() && tokens.get(at + 1).text().equals("reads");
            return reads ? client + " reads " + block + " ;" : client + " writes " + block + " 0-999999 ;";
        }
        switch (token.text()) {
            case "fork":
                int more = at + 2;
                StringBuilder set = new StringBuilder("fork " + client);
                while (more < tokens.size() && isNumber(tokens.get(more))) {
                    set.append(" ").append(client);
                    more++;
                }
                return set + " ;";
            case "move":
                return "move " + client + " 0-7 ;";
            case "rewind":
                return "rewind 0-7 1-200 ;";
            case "corrupt":
                return "corrupt 0-7 1-200 0-999999 ;";
            case "exchange":
                return "exchange " + client + " " + client + " ;";
            case "post":
                return "post " + client + " ;";
            case "heal":
                return "heal 0-7 0-7 ;";
            default:
                return "nothing";
        }
    }

    int run(int length) {
        String text = take(length);
        if (viewers.isEmpty()) {
            throw new IllegalStateException();
        }
        TreeSet<Integer> errors = new TreeSet<>();
        List<Token> tokens = split(text, errors);
        List<List<Integer>> numbers = new ArrayList<>();
        List<String> names = new ArrayList<>();
        int at = 0;
        while (at >= 0 && at < tokens.size() - 1) {
            if (names.size() == 60) {
                errors.add(tokens.get(at).start() * 10 + 3);
            }
            String pattern = patternOf(tokens, at);
            names.add(pattern.replaceAll("[^a-z]", ""));
            numbers.add(new ArrayList<>());
            at = follow(tokens, at, pattern, errors, numbers.get(numbers.size() - 1));
        }
        report(errors);
        refusedSteps = 0;
        for (int i = 0; i < names.size(); i++) {
            try {
                step(names.get(i), numbers.get(i));
            } catch (NoSuchElementException | IllegalArgumentException | IllegalStateException e) {
                refusedSteps++;
            }
        }
        return names.size() - refusedSteps;
    }

    private int step(String name, List<Integer> n) {
        switch (name) {
            case "writes":
                return write(n.get(0), n.get(1), n.get(2));
            case "reads":
                return read(n.get(0), n.get(1));
            case "fork":
                return fork(n.stream().mapToInt(k -> 1 << k).reduce(0, (a, b) -> a | b));
            case "move":
                return move(n.get(0), n.get(1));
            case "rewind":
                return rewind(n.get(0), n.get(1));
            case "corrupt":
                return corrupt(n.get(0), n.get(1), n.get(2));
            case "exchange":
                return exchange(n.get(0), n.get(1));
            case "post":
                return post(n.get(0));
            default:
                return heal(n.get(0), n.get(1));
        }
    }

    int errorCode() {
        return code;
    }

    int errorPosition() {
        return place;
    }

    int refused() {
        return refusedSteps;
    }

    // ---- pieces

    private Viewer viewer(int client) {
        need(client >= 0 && client < viewers.size());
        return viewers.get(client);
    }

    private List<Entry> branch(int branch) {
        need(branch >= 0 && branch < branches.size());
        return branches.get(branch);
    }

    private static void need(boolean there) {
        if (!there) {
            throw new NoSuchElementException();
        }
    }

    private static void fit(boolean fits) {
        if (!fits) {
            throw new IllegalArgumentException();
        }
    }

    private static void allow(boolean allowed) {
        if (!allowed) {
            throw new IllegalStateException();
        }
    }

    private static List<Long> hashes(List<Entry> entries) {
        List<Long> hashes = new ArrayList<>(List.of(1L));
        entries.forEach(entry -> hashes.add(entry.hash()));
        return hashes;
    }

    private static long computed(long before, int position, Entry e) {
        if (e.kind() == 2) {
            return Checks.mergeHash(before, e.link(), position);
        }
        return e.kind() == 1 ? Checks.writeHash(before, e.client(), e.block(), e.value(), position)
            : Checks.readHash(before, e.client(), e.block(), position);
    }

    private static long computedAt(List<Entry> entries, int position) {
        return computed(hashes(entries).get(position - 1), position, entries.get(position - 1));
    }

    private static void append(List<Entry> entries, Entry e) {
        long before = hashes(entries).get(entries.size());
        long hash = computed(before, entries.size() + 1, e);
        entries.add(new Entry(e.kind(), e.client(), e.block(), e.value(), e.link(), hash));
    }

    private static void takeHistory(Viewer v, List<Entry> entries) {
        v.hashes = hashes(entries);
        v.vector = new int[6];
        entries.stream().filter(e -> e.kind() != 2).forEach(e -> v.vector[e.client()]++);
    }

    private static int different(List<Long> one, List<Long> two) {
        int at = 0;
        while (one.get(at).equals(two.get(at))) {
            at++;
        }
        return at;
    }

    private static boolean forked(Viewer one, Viewer two) {
        int low = Math.min(one.position(), two.position());
        return !one.hashes.get(low).equals(two.hashes.get(low));
    }

    private void blame(Blame record) {
        blames.add(record);
        if (blames.size() > 60) {
            blames.remove(0);
        }
    }

    /** The blame record that the next operation would lead to, its case as the kind; null for none. */
    private Blame finding(int client) {
        Viewer v = viewers.get(client);
        List<Entry> entries = branches.get(v.branch);
        List<Long> hashes = hashes(entries);
        int p = v.position();
        if (entries.size() < p) {
            return new Blame(1, client, -1, p, v.hashes.get(p), hashes.get(entries.size()));
        }
        if (!hashes.get(p).equals(v.hashes.get(p))) {
            int at = different(v.hashes, hashes);
            return new Blame(2, client, -1, at, v.hashes.get(at), hashes.get(at));
        }
        for (int at = p + 1; at <= entries.size(); at++) {
            if (computedAt(entries, at) != hashes.get(at)) {
                return new Blame(3, client, -1, at, computedAt(entries, at), hashes.get(at));
            }
        }
        for (Post post : board) {
            if (post.position() <= entries.size() && hashes.get(post.position()) != post.hash()) {
                return new Blame(4, client, post.client(), post.position(), hashes.get(post.position()), post.hash());
            }
        }
        return null;
    }

    private void operate(int kind, int client, int block, int value) {
        Viewer v = viewers.get(client);
        allow(!v.suspicious);
        Blame found = finding(client);
        if (found != null) {
            int sort = found.kind() == 4 ? 2 : found.kind();
            blame(new Blame(sort, client, found.other(), found.position(), found.first(), found.second()));
            v.suspicious = true;
            throw new IllegalStateException();
        }
        List<Entry> entries = branches.get(v.branch);
        allow(entries.size() < 200);
        append(entries, new Entry(kind, client, block, value, 0, 0));
        takeHistory(v, entries);
        v.operations++;
        if (v.operations % interval == 0) {
            post(client);
        }
    }

    // ---- operations of clients

    int write(int client, int block, int value) {
        viewer(client);
        need(block >= 0 && block < blockCount);
        fit(value >= 0 && value <= 999999);
        operate(1, client, block, value);
        return branch(viewer(client).branch).size();
    }

    int read(int client, int block) {
        viewer(client);
        need(block >= 0 && block < blockCount);
        operate(0, client, block, 0);
        return value(viewer(client).branch, block);
    }

    int exchange(int client, int other) {
        Viewer one = viewer(client);
        Viewer two = viewer(other);
        need(client != other);
        if (forked(one, two)) {
            int at = different(one.hashes, two.hashes);
            blame(new Blame(2, client, other, at, one.hashes.get(at), two.hashes.get(at)));
            one.suspicious = true;
            two.suspicious = true;
            return 3;
        }
        return one.position() == two.position() ? 0 : one.position() < two.position() ? 1 : 2;
    }

    int post(int client) {
        Viewer v = viewer(client);
        long hash = v.hashes.get(v.position());
        seal = Checks.seal(seal, client, v.position(), hash);
        board.add(new Post(client, v.position(), hash, seal));
        if (board.size() > 40) {
            board.remove(0);
        }
        return board.size();
    }

    boolean calm(int client) {
        boolean was = viewer(client).suspicious;
        viewer(client).suspicious = false;
        return was;
    }

    int adopt(int client) {
        Viewer v = viewer(client);
        takeHistory(v, branches.get(v.branch));
        v.suspicious = false;
        return v.position();
    }

    // ---- what the service does

    int fork(int clients) {
        fit(clients != 0);
        TreeSet<Integer> seen = new TreeSet<>();
        for (int k = 0; k < 32; k++) {
            if ((clients >> k & 1) == 1) {
                fit(k < viewers.size());
                seen.add(viewers.get(k).branch);
            }
        }
        allow(seen.size() == 1 && branches.size() < 8);
        branches.add(new ArrayList<>(branches.get(seen.first())));
        for (int k = 0; k < viewers.size(); k++) {
            if ((clients >> k & 1) == 1) {
                viewers.get(k).branch = branches.size() - 1;
            }
        }
        return branches.size() - 1;
    }

    int move(int client, int branch) {
        Viewer v = viewer(client);
        branch(branch);
        int before = v.branch;
        v.branch = branch;
        return before;
    }

    int rewind(int branch, int count) {
        List<Entry> entries = branch(branch);
        fit(count >= 1 && count <= entries.size());
        entries.subList(entries.size() - count, entries.size()).clear();
        return entries.size();
    }

    int corrupt(int branch, int position, int value) {
        List<Entry> entries = branch(branch);
        need(position >= 1 && position <= entries.size());
        fit(value >= 0 && value <= 999999);
        Entry e = entries.get(position - 1);
        allow(e.kind() == 1);
        entries.set(position - 1, new Entry(1, e.client(), e.block(), value, 0, e.hash()));
        return e.value();
    }

    int heal(int x, int y) {
        branch(x);
        branch(y);
        need(x != y);
        int common = commonLength(x, y);
        allow(conflicts(x, y) == 0 && branches.size() < 8);
        List<Entry> made = new ArrayList<>(branch(x));
        List<Long> hashesOfY = hashes(branch(y));
        append(made, new Entry(2, -1, -1, 0, hashesOfY.get(hashesOfY.size() - 1), 0));
        branch(y).subList(common, branch(y).size()).forEach(e -> append(made, e));
        allow(made.size() <= 200);
        for (Viewer v : viewers) {
            if (v.branch == x || v.branch == y) {
                List<Long> hashes = hashes(branch(v.branch));
                int p = v.position();
                if (p < hashes.size() && hashes.get(p).equals(v.hashes.get(p))) {
                    v.suspicious = false;
                    if (v.branch == y && p > common) {
                        takeHistory(v, made);
                    }
                }
                v.branch = branches.size();
            }
        }
        branches.add(made);
        return branches.size() - 1;
    }

    // ---- questions

    int clients() {
        return viewers.size();
    }

    int blocks() {
        return blockCount;
    }

    int branches() {
        return branches.size();
    }

    int length(int branch) {
        return branch(branch).size();
    }

    int entry(int branch, int position, int what) {
        List<Entry> entries = branch(branch);
        need(position >= 1 && position <= entries.size());
        fit(what >= 0 && what <= 6);
        Entry e = entries.get(position - 1);
        long sound = computedAt(entries, position) == e.hash() ? 1 : 0;
        return (int) new long[] {e.kind(), e.client(), e.block(), e.value(), e.hash(), e.link(), sound}[what];
    }

    int value(int branch, int block) {
        branch(branch);
        need(block >= 0 && block < blockCount);
        int value = 0;
        for (Entry e : branch(branch)) {
            value = e.kind() == 1 && e.block() == block ? e.value() : value;
        }
        return value;
    }

    int branchOf(int client) {
        return viewer(client).branch;
    }

    int commonLength(int x, int y) {
        List<Long> one = hashes(branch(x));
        List<Long> two = hashes(branch(y));
        int n = Math.min(one.size(), two.size());
        while (!one.subList(0, n).equals(two.subList(0, n))) {
            n--;
        }
        return n - 1;
    }

    private boolean own(int branch, int common, int block, int kind) {
        return branch(branch).stream().skip(common).anyMatch(e -> e.kind() == kind && e.block() == block);
    }

    int conflicts(int x, int y) {
        int common = commonLength(x, y);
        int set = 0;
        for (int block = 0; block < blockCount; block++) {
            boolean one = own(x, common, block, 1) && (own(y, common, block, 0) || own(y, common, block, 1));
            boolean two = own(y, common, block, 1) && (own(x, common, block, 0) || own(x, common, block, 1));
            set += one || two ? 1 << block : 0;
        }
        return set;
    }

    int receipt(int client, int what) {
        Viewer v = viewer(client);
        fit(what >= 0 && what <= 2);
        long hash = v.hashes.get(v.position());
        return (int) new long[] {v.position(), hash, Checks.signature(client, v.position(), hash)}[what];
    }

    boolean isSigned(int client, int position, int hash, int signature) {
        return client >= 0 && client < viewers.size() && position >= 0 && position <= 200 && hash >= 0
            && hash <= 2147483646 && Checks.signature(client, position, hash) == signature;
    }

    int hashAt(int client, int position) {
        Viewer v = viewer(client);
        need(position >= 0 && position <= v.position());
        return v.hashes.get(position).intValue();
    }

    int vector(int client, int other) {
        viewer(other);
        return viewer(client).vector[other];
    }

    int order(int client, int other) {
        int[] one = viewer(client).vector;
        int[] two = viewer(other).vector;
        if (Arrays.equals(one, two)) {
            return 0;
        }
        boolean below = true;
        boolean above = true;
        for (int k = 0; k < 6; k++) {
            below &= one[k] <= two[k];
            above &= two[k] <= one[k];
        }
        return below ? 1 : above ? 2 : 3;
    }

    boolean isSuspicious(int client) {
        return viewer(client).suspicious;
    }

    int wouldFind(int client) {
        viewer(client);
        Blame found = finding(client);
        return found == null ? 0 : found.kind();
    }

    int forkedPairs() {
        int both = 0;
        for (Viewer one : viewers) {
            for (Viewer two : viewers) {
                both += forked(one, two) ? 1 : 0;
            }
        }
        return both / 2;
    }

    int seenBy(int client) {
        Viewer v = viewer(client);
        int set = 0;
        for (int k = 0; k < viewers.size(); k++) {
            Viewer other = viewers.get(k);
            boolean has = k != client && other.vector[client] >= v.vector[client] && !forked(other, v);
            set += has ? 1 << k : 0;
        }
        return set;
    }

    int blames() {
        return blames.size();
    }

    int blame(int index, int what) {
        need(index >= 0 && index < blames.size());
        fit(what >= 0 && what <= 5);
        Blame b = blames.get(index);
        return (int) new long[] {b.kind(), b.client(), b.other(), b.position(), b.first(), b.second()}[what];
    }

    int posts() {
        return board.size();
    }

    int boardPost(int index, int what) {
        need(index >= 0 && index < board.size());
        fit(what >= 0 && what <= 3);
        Post post = board.get(index);
        return (int) new long[] {post.client(), post.position(), post.hash(), post.seal()}[what];
    }

    int checkPost(int client, int index) {
        Viewer v = viewer(client);
        need(index >= 0 && index < board.size());
        Post post = board.get(index);
        if (v.position() < post.position()) {
            return 2;
        }
        return v.hashes.get(post.position()) == post.hash() ? 0 : 1;
    }
}
