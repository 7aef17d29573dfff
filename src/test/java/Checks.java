import java.math.BigInteger;
import java.nio.charset.StandardCharsets;
import java.util.NoSuchElementException;

/** What the tests share: counting wrong answers, feeding texts, and the formulas of the document. */
final class Checks {
    static final Class<NoSuchElementException> NO_SUCH = NoSuchElementException.class;
    static final Class<IllegalArgumentException> ARGUMENT = IllegalArgumentException.class;
    static final Class<IllegalStateException> STATE = IllegalStateException.class;

    private static final BigInteger MODULUS = BigInteger.valueOf(2147483647L);
    private static int wrong = 0;
    private static String topic = "";

    private Checks() {
    }

    interface Call {
        void make();
    }

    /** What stands before each wrong answer from now on. */
    static void about(String words) {
        topic = words;
    }

    static void due(String what, long got, long want) {
        if (got != want) {
            tellWrong(what + " answered " + got + ", due is " + want);
        }
    }

    static void due(String what, boolean got, boolean want) {
        if (got != want) {
            tellWrong(what + " answered " + got + ", due is " + want);
        }
    }

    static void due(String what, String got, String want) {
        if (!got.equals(want)) {
            tellWrong(what + " answered " + got + ", due is " + want);
        }
    }

    private static void tellWrong(String words) {
        wrong++;
        System.out.println(topic + words);
    }

    /** Subclasses of the exception do not count: the document names the very one that is thrown. */
    static void dueThrows(String what, Class<? extends RuntimeException> want, Call call) {
        String got = "nothing";
        try {
            call.make();
        } catch (RuntimeException e) {
            if (e.getClass() == want) {
                return;
            }
            got = e.getClass().getName();
        }
        tellWrong(what + " threw " + got + ", due is " + want.getName());
    }

    static void finish() {
        System.out.println(wrong == 0 ? "all answers are as due" : wrong + " answers are not as due");
        if (wrong != 0) {
            System.exit(1);
        }
    }

    /** Feeds the text, filled up to a multiple of 20 with bytes that no text may have. */
    static int feed(ForkWatch watch, String text) {
        byte[] bytes = text.getBytes(StandardCharsets.ISO_8859_1);
        for (int at = 0; at < bytes.length; at += 20) {
            int[] words = new int[5];
            for (int i = 0; i < 20; i++) {
                int sign = at + i < bytes.length ? bytes[at + i] & 255 : '#';
                words[i / 4] = words[i / 4] << 8 | sign;
            }
            watch.feed(words[0], words[1], words[2], words[3], words[4]);
        }
        return bytes.length;
    }

    static int load(ForkWatch watch, String text) {
        return watch.load(feed(watch, text));
    }

    static int run(ForkWatch watch, String text) {
        return watch.run(feed(watch, text));
    }

    static ForkWatch service(int clients, int blocks, int interval) {
        ForkWatch watch = new ForkWatch();
        load(watch, "clients " + clients + " blocks " + blocks + " witness " + interval + ";");
        return watch;
    }

    /** Lets a client do reads of block 0 by scripts, so that they cost few calls. */
    static void readOften(ForkWatch watch, int client, int times) {
        for (int left = times; left > 0; left -= 60) {
            int now = Math.min(left, 60);
            due("a script of reads", run(watch, (client + " reads 0;").repeat(now)), now);
        }
    }

    static long modulo(long... factors) {
        BigInteger sum = BigInteger.ZERO;
        for (int at = 0; at + 1 < factors.length; at += 2) {
            sum = sum.add(BigInteger.valueOf(factors[at]).multiply(BigInteger.valueOf(factors[at + 1])));
        }
        return sum.mod(MODULUS).longValue();
    }

    static long readHash(long before, int client, int block, int position) {
        return modulo(before, 1000003, client, 7919, block, 104729, position, 1);
    }

    static long writeHash(long before, int client, int block, int value, int position) {
        return modulo(before, 1000003, client, 7919, block, 104729, value + 1, 15485863, position, 1);
    }

    static long mergeHash(long before, long link, int position) {
        return modulo(before, 1000003, link, 1299709, position, 1);
    }

    static long signature(int client, int position, long hash) {
        return modulo(hash, 31, position, 17, client, 13, 12345, 1);
    }

    static long seal(long before, int client, int position, long hash) {
        return modulo(before, 1000003, hash, 7919, position, 17, client, 1);
    }

    /**
     * Values v for two histories of two entries that have different hashes at 1 and the same one at 2: client 0 writes
     * v[0] to block 0 and v[2] to block 1, client 1 writes v[1] to block 0 and v[3] to block 1.
     */
    static int[] collidingWrites() {
        long modulus = MODULUS.longValue();
        BigInteger inverse = BigInteger.valueOf(15485863).modInverse(MODULUS);
        // Client 0 and client 1 write block 0 first and block 1 then: 7919 is what the clients make different.
        for (int first = 0; first < 100000; first++) {
            long one = writeHash(1, 0, 0, first, 1);
            long two = writeHash(1, 1, 0, 0, 1);
            long gap = Math.floorMod((one - two) * 1000003L - 7919L, modulus);
            long more = BigInteger.valueOf(gap).multiply(inverse).mod(MODULUS).longValue();
            if (more <= 999999 && one != two) {
                return new int[] {first, 0, 0, (int) more};
            }
        }
        throw new IllegalStateException("no collision found");
    }
}
