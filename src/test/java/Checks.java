import java.math.BigInteger;
import java.nio.charset.StandardCharsets;
import java.util.NoSuchElementException;

/** What the tests share: counting wrong answers, feeding texts, and the formulas of the document. */
final class Checks {
    static final Class<NoSuchElementException> NO_SUCH = NoSuchElementException.class;
    static final Class<IllegalArgumentException> ARGUMENT = IllegalArgumentException.class;
    static final Class<IllegalStateException> STATE = IllegalStateException.class;

    private static final BigInteger MODULUS = BigInteger.valueOf(2147483647L);
    private static int wrong = 0;

    private Checks() {
    }

    interface Call {
        void make();
    }

    static void due(String what, long got, long want) {
        if (got != want) {
            wrong++;
            System.out.println(what + " answered " + got + ", due is " + want);
        }
    }

    static void due(String what, boolean got, boolean want) {
        if (got != want) {
            wrong++;
            System.out.println(what + " answered " + got + ", due is " + want);
        }
    }

    /** Subclasses of the exception do not count: the document names the very one that is thrown. */
    static void dueThrows(String what, Class<? extends RuntimeException> want, Call call) {
        String got = "nothing";
        try {
            call.make();
        } catch (RuntimeException e) {
            if (e.getClass() == want) {
                return;
            }
            got = e.getClass().getName();
        }
        wrong++;
        System.out.println(what + " threw " + got + ", due is " + want.getName());
    }

    static void finish() {
        System.out.println(wrong == 0 ? "all answers are as due" : wrong + " answers are not as due");
        if (wrong != 0) {
            System.exit(1);
        }
    }

    /** Feeds the text, filled up to a multiple of 20 with bytes that no text may have. */
    static int feed(ForkWatch watch, String text) {
        byte[] bytes = text.getBytes(StandardCharsets.ISO_8859_1);
        for (int at = 0; at < bytes.length; at += 20) {
            int[] words = new int[5];
            for (int i = 0; i < 20; i++) {
                int sign = at + i < bytes.length ? bytes[at + i] & 255 : '#';
                words[i / 4] = words[i / 4] << 8 | sign;
            }
            watch.feed(words[0], words[1], words[2], words[3], words[4]);
        }
        return bytes.length;
    }

    static int load(ForkWatch watch, String text) {
        return watch.load(feed(watch, text));
    }

    static int run(ForkWatch watch, String text) {
        return watch.run(feed(watch, text));
    }

    static ForkWatch service(int clients, int blocks, int interval) {
        ForkWatch watch = new ForkWatch();
        load(watch, "clients " + clients + " blocks " + blocks + " witness " + interval + ";");
        return watch;
    }

    /** Lets a client do reads of block 0 by scripts, so that they cost few calls. */
    static void readOften(ForkWatch watch, int client, int times) {
        for (int left = times; left > 0; left -= 60) {
            int now = Math.min(left, 60);
            due("a script of reads", run(watch, (client + " reads 0;").repeat(now)), now);
        }
    }

    static long modulo(long... factors) {
        BigInteger sum = BigInteger.ZERO;
        for (int at = 0; at + 1 < factors.length; at += 2) {
            sum = sum.add(BigInteger.valueOf(factors[at]).multiply(BigInteger.valueOf(factors[at + 1])));
        }
        return sum.mod(MODULUS).longValue();
    }

    static long readHash(long before, int client, int block, int position) {
        return modulo(before, 1000003, client, 7919, block, 104729, position, 1);
    }

    static long writeHash(long before, int client, int block, int value, int position) {
        return modulo(before, 1000003, client, 7919, block, 104729, value + 1, 15485863, position, 1);
    }

    static long mergeHash(long before, long link, int position) {
        return modulo(before, 1000003, link, 1299709, position, 1);
    }

    static long signature(int client, int position, long hash) {
        return modulo(hash, 31, position, 17, client, 13, 12345, 1);
    }

    static long seal(long before, int client, int position, long hash) {
        return modulo(before, 1000003, hash, 7919, position, 17, client, 1);
    }
}
