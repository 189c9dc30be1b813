import java.lang.reflect.InvocationTargetException;
import java.lang.reflect.Method;
import java.lang.reflect.Modifier;
import java.util.ArrayList;
import java.util.Arrays;
import java.util.List;
import java.util.Map;
import java.util.Random;
import java.util.stream.Collectors;

/**
 * Runs of calls, drawn anew from a fixed seed each, on the class and on the {@link Oracle}: all answers are alike, and
 * nothing is thrown. Every run stays within the document's 512 calls.
 */
public final class OracleTest {
    private static final int RUNS = 1500;
    private static final int CALLS = 512;
    private static final String[] SETTING_UP = {"physics", "feed", "fighter", "load", "clear", "set", "image", "back",
        "tape", "item", "shift"};
    private static final String[] CHEAP = {"of", "run", "cell", "thread", "died", "state", "act", "trace", "taken",
        "count", "read", "duel", "garden", "sturdy", "round", "same", "all"};
    private static final String[] DEAR = {"key", "tune", "worth", "ladder", "ring", "unlike"};
    private static final int[] EXTREMES = {Integer.MIN_VALUE, Integer.MAX_VALUE, -1, -2, 99, 150, 151, 64, 255, -99};

    private static final Map<String, Method> TESTED = methods(RingWars.class);
    private static final Map<String, Method> ORACLE = methods(Oracle.class);

    private final Random random;
    private final RingWars tested = new RingWars();
    private final Oracle oracle = new Oracle();
    private final List<String> told = new ArrayList<>();
    private int calls;

    private OracleTest(long seed) {
        random = new Random(seed);
    }

    public static void main(String[] args) throws ReflectiveOperationException {
        long answers = 0;
        for (int seed = 0; seed < RUNS; seed++) {
            OracleTest test = new OracleTest(seed);
            if (!(seed % 4 == 0 ? test.runOfTables() : test.runOfAll())) {
                System.out.println("seed " + seed + ":");
                test.told.forEach(System.out::println);
                System.exit(1);
            }
            answers += test.calls;
        }
        System.out.println(answers + " answers, 0 not as due");
    }

    private static Map<String, Method> methods(Class<?> type) {
        return Arrays.stream(type.getDeclaredMethods()).filter(m -> !m.isSynthetic() && !Modifier.isPrivate(m.getModifiers()))
            .collect(Collectors.toMap(Method::getName, m -> m));
    }

    private boolean call(String name, Object... args) throws ReflectiveOperationException {
        if (calls == CALLS) {
            return true;
        }
        calls++;
        Object got;
        try {
            got = TESTED.get(name).invoke(tested, args);
        } catch (InvocationTargetException thrown) {
            got = thrown.getCause();
        }
        Object want = ORACLE.get(name).invoke(oracle, args);
        told.add(name + Arrays.toString(args) + " answered " + got + ", due is " + want);
        return got.equals(want);
    }

    /** Many fighters in a small ring, so that wars end and tables are unlike; more fighters and other physics later. */
    private boolean runOfTables() throws ReflectiveOperationException {
        boolean well = call("physics", 0, 8 + random.nextInt(4)) && call("physics", 1, 10 + random.nextInt(50));
        for (int part = 0; well && part < 3; part++) {
            for (int i = 0; well && i < 3; i++) {
                well = random.nextInt(3) > 0 ? feedFighter() : loadFighter();
            }
            for (int i = 0; well && i < 10; i++) {
                well = any(DEAR);
            }
            for (int i = 0; well && i < 3; i++) {
                well = call("ring", i);
            }
            for (int i = 0; well && i < 8; i++) {
                well = call("ladder", i) && call("garden", random.nextInt(256), i % 2);
            }
            if (well && random.nextInt(3) == 0) {
                int what = random.nextInt(4);
                well = call("physics", what, new int[] {9, 20, 2, 3}[what]) && call("ladder", 0);
            }
        }
        return well;
    }

    private boolean runOfAll() throws ReflectiveOperationException {
        boolean well = true;
        for (int what = 0; well && what < 4; what++) {
            if (random.nextInt(3) > 0) {
                int[] most = {32, 150, 8, 32};
                well = call("physics", what, 1 + random.nextInt(most[what]));
            }
        }
        for (int i = random.nextInt(9); well && i > 0; i--) {
            well = random.nextInt(3) > 0 ? feedFighter() : loadFighter();
        }
        while (well && calls < 180) {
            int turn = random.nextInt(100);
            if (turn < 20) {
                well = any(SETTING_UP);
            } else if (turn < 35) {
                well = war();
            } else if (turn < 40) {
                well = feedFighter();
            } else if (turn < 43) {
                well = loadFighter();
            } else if (turn < 45) {
                well = any(DEAR);
            } else {
                well = any(CHEAP);
            }
        }
        return well && lookAtAll();
    }

    private boolean any(String[] names) throws ReflectiveOperationException {
        String name = names[random.nextInt(names.length)];
        Class<?>[] types = TESTED.get(name).getParameterTypes();
        Object[] args = new Object[types.length];
        for (int i = 0; i < args.length; i++) {
            int n = random.nextInt(12) == 0 ? EXTREMES[random.nextInt(EXTREMES.length)] : number(name, i);
            args[i] = types[i] == long.class ? (Object) (random.nextInt(4) == 0 ? random.nextLong() : (long) n)
                : (Object) n;
        }
        return call(name, args);
    }

    /** A number that is likely to be of use as the i-th argument. */
    private int number(String name, int i) {
        switch (name) {
            case "physics":
                return i == 0 ? random.nextInt(4) : random.nextInt(34);
            case "garden":
                return i == 0 ? random.nextInt(32) : random.nextInt(2);
            case "feed":
                return i == 0 ? random.nextInt() : random.nextInt(5);
            case "run":
                return 1 + random.nextInt(40);
            case "cell":
            case "act":
            case "taken":
                return i == 0 ? random.nextInt(16) : random.nextInt(i == 2 ? 1000 : 7);
            case "duel":
                return i == 2 ? random.nextInt(16) : random.nextInt(i == 3 ? 2 : 3);
            case "item":
                return i == 0 ? random.nextInt(2) : random.nextInt(i == 1 ? 30 : 7);
            case "tape":
                return i == 0 ? random.nextInt(3) : i == 1 ? random.nextInt(7) - 1 : random.nextInt(63) - 1;
            default:
                return random.nextInt(5) - (random.nextInt(6) == 0 ? 1 : 0);
        }
    }

    /** A war anew, of up to four. */
    private boolean war() throws ReflectiveOperationException {
        boolean well = call("clear");
        for (int side = random.nextInt(5); well && side > 0; side--) {
            well = call("set", random.nextInt(5), random.nextInt(16));
        }
        for (int part = random.nextInt(4); well && part > 0; part--) {
            well = call("run", 1 + random.nextInt(part == 1 ? 50 : 4));
        }
        return well;
    }

    private boolean feedFighter() throws ReflectiveOperationException {
        StringBuilder text = new StringBuilder();
        int orders = 1 + random.nextInt(random.nextInt(4) == 0 ? 9 : 5);
        for (int i = 0; i < orders; i++) {
            text.append(i == 0 ? "" : ";").append(order(i));
        }
        for (int harm = random.nextInt(5) - 3; harm > 0; harm--) {
            text.setCharAt(random.nextInt(text.length()), "abcdefijkmopstuyz.@<>#:; -0123456789!".charAt(random.nextInt(37)));
        }
        if (random.nextInt(8) == 0) {
            text.setLength(random.nextInt(text.length()) + 1);
        }
        boolean well = true;
        for (int at = 0; well && at < text.length(); at += 4) {
            int bytes = 0;
            int n = Math.min(4, text.length() - at);
            for (int k = 0; k < n; k++) {
                bytes = bytes << 8 | text.charAt(at + k);
            }
            well = call("feed", bytes, n);
        }
        return well && call("fighter");
    }

    private String order(int i) {
        String[] words = {"die", "copy", "add", "jump", "ifz", "skip", "split"};
        int[] addresses = {0, 2, 2, 1, 2, 2, 1};
        int kind = random.nextInt(4) == 0 ? random.nextInt(7) : 1 + random.nextInt(6);
        StringBuilder order = new StringBuilder();
        if (random.nextInt(3) == 0) {
            order.append((char) ('a' + (random.nextInt(6) == 0 ? random.nextInt(6) : Math.min(i, 5)))).append(':');
        }
        order.append(words[kind]);
        for (int k = 0; k < addresses[kind]; k++) {
            order.append(' ').append(".@<>#".charAt(random.nextInt(5)));
            if (random.nextInt(12) == 0) {
                order.append((char) ('a' + random.nextInt(6)));
            } else {
                order.append(random.nextInt(8) == 0 ? random.nextInt(199) - 99 : random.nextInt(12) - 4);
            }
        }
        return order.toString();
    }

    private boolean loadFighter() throws ReflectiveOperationException {
        int n = 1 + random.nextInt(3);
        boolean well = call("tape", 4, 1, 5 * n);
        for (int i = 0; well && i < 5 * n; i++) {
            int[] most = {7, 5, 12, 5, 12};
            int v = random.nextInt(60) == 0 ? random.nextInt(220) - 110 : random.nextInt(most[i % 5]);
            well = call("item", 4, i, (long) v);
        }
        return well && call("load", 4, 0, n);
    }

    private boolean lookAtAll() throws ReflectiveOperationException {
        boolean well = true;
        for (int what = 0; well && what < 8; what++) {
            well = call("count", what) && call("state", what);
        }
        for (int side = 0; well && side < 4; side++) {
            well = call("died", side, 0) && call("died", side, 1);
            for (int i = -1; well && i < 9; i++) {
                well = call("thread", side, i);
            }
        }
        for (int cell = 0; well && cell < 32; cell++) {
            for (int what = 0; well && what < 7; what++) {
                well = call("cell", cell, what);
            }
        }
        return well;
    }
}
