import java.lang.reflect.InvocationTargetException;
import java.lang.reflect.Method;
import java.util.ArrayList;
import java.util.HashMap;
import java.util.List;
import java.util.Map;
import java.util.Random;

/** Long runs of calls, made by a fixed seed, on the class and on the plain model: both must answer the same. */
public final class ModelTest {
    private static final int RUNS = Integer.getInteger("runs", 400);
    private static final int CALLS = 512;
    private static final Map<String, Method> METHODS = new HashMap<>();
    private static final String[] CHANGES = {"write", "write", "write", "write", "read", "read", "exchange", "post",
        "calm", "calm", "adopt", "adopt", "fork", "move", "rewind", "corrupt", "heal", "heal"};
    private static final String[] STEPS = {"writes", "writes", "writes", "reads", "reads", "reads", "fork", "move",
        "rewind", "corrupt", "exchange", "post", "heal"};

    private final Random random;
    private final ForkWatch watch = new ForkWatch();
    private final Model model = new Model();
    private final List<String> log = new ArrayList<>();
    private final boolean rough;

    private ModelTest(long seed) {
        random = new Random(seed);
        rough = seed % 4 == 0;
    }

    public static void main(String[] args) {
        for (Class<?> type : new Class<?>[] {ForkWatch.class, Model.class}) {
            for (Method method : type.getDeclaredMethods()) {
                if (type == Model.class && METHODS.containsKey("ForkWatch." + key(method))
                        || type == ForkWatch.class && java.lang.reflect.Modifier.isPublic(method.getModifiers())) {
                    METHODS.put(type.getName() + "." + key(method), method);
                }
            }
        }
        for (int run = 0; run < RUNS; run++) {
            if (!new ModelTest(run).isSame()) {
                System.out.println("run " + run + " went apart");
                System.exit(1);
            }
        }
        System.out.println("all answers are as due");
    }

    private static String key(Method method) {
        return method.getName() + method.getParameterCount();
    }

    private boolean isSame() {
        boolean same = true;
        while (same && log.size() < CALLS) {
            int choice = random.nextInt(100);
            if (choice < 2 && random.nextInt(8) == 0 || watch.clients() == 0 && choice < 60) {
                same = text("load", serviceText());
            } else if (choice < 8) {
                same = text("run", scriptText());
            } else if (choice < 12) {
                same = call("feed", random.nextInt(), random.nextInt(), random.nextInt(), random.nextInt(), 0);
            } else if (choice < 14) {
                same = call(random.nextBoolean() ? "load" : "run", random.nextInt(60) - 5);
            } else if (choice < 75) {
                same = change();
            } else {
                same = question();
            }
        }
        return same && sameState();
    }

    private int clients() {
        return number(watch.clients());
    }

    private int branch() {
        return number(watch.branches());
    }

    /** A number below the bound, in rough runs sometimes one that is not. */
    private int number(int bound) {
        if (rough && random.nextInt(12) == 0) {
            int[] odd = {-1, bound, bound + 1, Integer.MIN_VALUE, Integer.MAX_VALUE, 200, 201};
            return odd[random.nextInt(odd.length)];
        }
        return bound <= 0 ? 0 : random.nextInt(bound);
    }

    private boolean change() {
        switch (CHANGES[random.nextInt(CHANGES.length)]) {
            case "write":
                return call("write", clients(), number(watch.blocks()), number(1000000));
            case "read":
                return call("read", clients(), number(watch.blocks()));
            case "exchange":
                return random.nextInt(3) > 0 || call("exchange", clients(), clients());
            case "post":
                return random.nextInt(3) > 0 || call("post", clients());
            case "calm":
                return call("calm", clients());
            case "adopt":
                return call("adopt", clients());
            case "fork":
                return random.nextInt(2) > 0 || call("fork", number(1 << watch.clients()));
            case "move":
                return random.nextInt(2) > 0 || call("move", clients(), branch());
            case "rewind":
                return random.nextInt(3) > 0 || call("rewind", branch(), 1 + number(3));
            case "corrupt":
                return random.nextInt(3) > 0 || call("corrupt", branch(), number(30), number(1000000));
            default:
                return call("heal", branch(), branch());
        }
    }

    private boolean question() {
        int position = number(40);
        int hash = random.nextInt() >>> 1;
        switch (random.nextInt(14)) {
            case 0:
                return call("entry", branch(), position, number(7));
            case 1:
                return call("value", branch(), number(watch.blocks()));
            case 2:
                return call("commonLength", branch(), branch());
            case 3:
                return call("conflicts", branch(), branch());
            case 4:
                return call("receipt", clients(), number(3));
            case 5:
                return call("isSigned", 0, position, hash, (int) Checks.signature(0, position, hash));
            case 6:
                return call("hashAt", clients(), position);
            case 7:
                return call("order", clients(), clients()) && call("vector", clients(), clients());
            case 8:
                return call("wouldFind", clients()) && call("isSuspicious", clients());
            case 9:
                return call("seenBy", clients()) && call("forkedPairs");
            case 10:
                return call("blame", number(watch.blames()), number(6)) && call("blames");
            case 11:
                return call("boardPost", number(watch.posts()), number(4)) && call("posts");
            case 12:
                return call("checkPost", clients(), number(watch.posts()));
            default:
                return call("errorCode") && call("errorPosition") && call("refused") && call("length", branch());
        }
    }

    private boolean sameState() {
        boolean same = call("clients") && call("blocks") && call("branches") && call("forkedPairs") && call("blames")
            && call("posts") && call("errorCode") && call("errorPosition") && call("refused");
        for (int b = -1; b <= 8; b++) {
            same = same && call("length", b);
            for (int at = 0; b >= 0 && b < watch.branches() && at <= watch.length(b) + 1; at++) {
                for (int what = 0; what < 7; what++) {
                    same = same && call("entry", b, at, what);
                }
            }
            for (int k = -1; k <= 16; k++) {
                same = same && call("value", b, k);
            }
            for (int other = -1; other <= 8; other++) {
                same = same && call("commonLength", b, other) && call("conflicts", b, other);
            }
        }
        for (int c = -1; c <= 6; c++) {
            same = same && sameClient(c);
        }
        for (int index = -1; index <= 60; index++) {
            for (int what = -1; what <= 6; what++) {
                same = same && call("blame", index, what) && call("boardPost", index, what);
            }
        }
        return same;
    }

    private boolean sameClient(int c) {
        boolean same = call("branchOf", c) && call("isSuspicious", c) && call("wouldFind", c) && call("seenBy", c);
        for (int what = -1; what <= 3; what++) {
            same = same && call("receipt", c, what);
        }
        for (int other = -1; other <= 6; other++) {
            same = same && call("vector", c, other) && call("order", c, other);
        }
        for (int at = -1; at <= 201; at++) {
            same = same && call("hashAt", c, at);
        }
        for (int index = -1; index <= 40; index++) {
            same = same && call("checkPost", c, index);
        }
        return same;
    }

    private String serviceText() {
        int clients = 2 + number(5);
        int blocks = 1 + number(16);
        return spoil("clients " + clients + " blocks " + blocks + " witness " + (1 + number(50)) + ";");
    }

    private String scriptText() {
        int steps = random.nextInt(4) == 0 ? 58 + random.nextInt(5) : random.nextInt(30);
        StringBuilder text = new StringBuilder();
        for (int i = 0; i < steps; i++) {
            String step = stepText();
            if (text.length() + step.length() > 850) {
                break;
            }
            text.append(step);
        }
        return spoil(text.toString());
    }

    private String stepText() {
        String step = STEPS[random.nextInt(STEPS.length)];
        switch (step) {
            case "writes":
                return clients() + " writes " + number(watch.blocks()) + " " + number(1000) + ";";
            case "reads":
                return clients() + " reads " + number(watch.blocks()) + ";";
            case "fork":
                return "fork " + clients() + (random.nextBoolean() ? ";" : " " + clients() + ";");
            case "move":
                return "move " + clients() + " " + branch() + " ;";
            case "rewind":
                return "rewind " + branch() + " " + (1 + number(2)) + ";\n";
            case "corrupt":
                return "corrupt " + branch() + " " + (1 + number(20)) + " " + number(1000000) + ";";
            case "exchange":
                return "exchange " + clients() + " " + clients() + ";";
            case "post":
                return "post " + clients() + ";";
            default:
                return "heal " + branch() + "  " + branch() + ";";
        }
    }

    /** Now and then a byte is put in, taken out or changed. */
    private String spoil(String text) {
        StringBuilder spoiled = new StringBuilder(text);
        String signs = " \n;0179az@AZ-\u0000\u00ff\u00e9\t[`{/:";
        for (int i = random.nextInt(3) == 0 ? 1 + random.nextInt(2) : 0; i > 0 && spoiled.length() > 0; i--) {
            int at = random.nextInt(spoiled.length());
            char sign = signs.charAt(random.nextInt(signs.length()));
            int how = random.nextInt(4);
            if (how == 0) {
                spoiled.insert(at, sign);
            } else if (how == 1) {
                spoiled.deleteCharAt(at);
            } else if (how == 2) {
                spoiled.setCharAt(at, sign);
            } else {
                spoiled.setLength(at);
            }
        }
        return spoiled.toString();
    }

    private boolean text(String name, String text) {
        boolean same = call("run", 0);
        int fed = 0;
        while (same && fed < text.length()) {
            int[] words = new int[5];
            for (int i = 0; i < 20; i++) {
                words[i / 4] = words[i / 4] << 8 | (fed + i < text.length() ? text.charAt(fed + i) : '#');
            }
            same = call("feed", words[0], words[1], words[2], words[3], words[4]);
            fed += 20;
        }
        log.add("the text is " + text);
        return same && call(name, text.length());
    }

    private boolean call(String name, int... numbers) {
        String got = answer(watch, name, numbers);
        String due = answer(model, name, numbers);
        log.add(name + java.util.Arrays.toString(numbers) + " " + got);
        if (!got.equals(due)) {
            log.subList(Math.max(0, log.size() - 60), log.size()).forEach(System.out::println);
            System.out.println("due is " + due);
        }
        return got.equals(due);
    }

    private static String answer(Object target, String name, int[] numbers) {
        Object[] boxed = new Object[numbers.length];
        for (int i = 0; i < numbers.length; i++) {
            boxed[i] = numbers[i];
        }
        try {
            String key = target.getClass().getName() + "." + name + numbers.length;
            return String.valueOf(METHODS.get(key).invoke(target, boxed));
        } catch (InvocationTargetException e) {
            return "throws " + e.getCause().getClass().getName();
        } catch (IllegalAccessException e) {
            return "not allowed";
        }
    }
}
