import java.lang.reflect.InvocationTargetException;
import java.lang.reflect.Method;
import java.util.ArrayList;
import java.util.Arrays;
import java.util.HashMap;
import java.util.List;
import java.util.Map;
import java.util.Random;

/** All promises: runs of 512 calls with numbers from fixed seeds, held against PlainHeights. */
public final class RandomRunsTest {
    private static final int RUNS = Integer.getInteger("runs", 400);
    private static final int CALLS = 512;
    private static final int[] WILD = {-1, -2, 0, 1, 7, 40, 41, 100, -100, 1000, 4000, Integer.MAX_VALUE,
        Integer.MIN_VALUE, Integer.MAX_VALUE - 3};
    private static final String[] WORDS = {"bend ", "bend", " ", "if ", " and ", " or ", " not ", "(", ")", "heat",
        "hour", "away", "kind", "<", "=", ">", ";", "5", "12", "100", "1000", "x", "\t", "\u00e9"};

    private final Random random;
    private final Map<String, Method> plainMethods;
    private int calls = 0;
    private int wrong = 0;
    private final Map<String, Integer> fine = new HashMap<>();

    private RandomRunsTest(long seed, Map<String, Method> plainMethods) {
        this.random = new Random(seed);
        this.plainMethods = plainMethods;
    }

    public static void main(String[] args) throws Exception {
        Map<String, Method> plainMethods = new HashMap<>();
        for (Method m : PlainHeights.class.getDeclaredMethods()) {
            m.setAccessible(true);
            if (java.lang.reflect.Modifier.isPublic(m.getModifiers())) {
                plainMethods.put(m.getName(), m);
            }
        }
        List<Method> methods = new ArrayList<>(Arrays.asList(FarHeights.class.getDeclaredMethods()));
        methods.removeIf(m -> !java.lang.reflect.Modifier.isPublic(m.getModifiers()));
        methods.sort((a, b) -> a.getName().compareTo(b.getName()));
        Map<String, Integer> fine = new HashMap<>();
        int calls = 0;
        int wrong = 0;
        for (int run = 0; run < RUNS; run++) {
            RandomRunsTest test = new RandomRunsTest(run, plainMethods);
            test.run(run, methods);
            calls += test.calls;
            wrong += test.wrong;
            test.fine.forEach((name, n) -> fine.merge(name, n, Integer::sum));
        }
        for (Method m : methods) {
            if (fine.getOrDefault(m.getName(), 0) == 0) {
                System.out.println("RandomRunsTest: no call of " + m.getName() + " was answered but by a refusal");
                wrong++;
            }
        }
        System.out.println("RandomRunsTest: " + calls + " answers, " + wrong + " wrong");
        if (wrong != 0) {
            System.exit(1);
        }
    }

    private void run(int run, List<Method> methods) throws Exception {
        FarHeights x = new FarHeights();
        PlainHeights plain = new PlainHeights();
        List<String> told = new ArrayList<>();
        // some runs build little, so that calls meet an almost empty object too
        int building = run % 10 == 0 ? 0 : random.nextInt(60);
        for (int i = 0; i < CALLS && wrong == 0; i++) {
            if (random.nextInt(25) == 0) {
                feedText(x, plain, told);
                continue;
            }
            Method m = i < building ? builder(methods) : methods.get(random.nextInt(methods.size()));
            boolean rare = m.getName().equals("back") || m.getName().equals("read");
            if (rare && random.nextInt(3) != 0) {
                continue;
            }
            call(run, m, arguments(m), x, plain, told);
        }
    }

    private Method builder(List<Method> methods) {
        String[] names = {"station", "leg", "leg", "point", "sight", "sight", "sight", "sheet"};
        String name = names[random.nextInt(names.length)];
        return methods.stream().filter(m -> m.getName().equals(name)).findFirst().orElseThrow();
    }

    private void call(int run, Method m, Object[] args, FarHeights x, PlainHeights plain, List<String> told)
            throws Exception {
        String call = m.getName() + Arrays.toString(args);
        told.add(call);
        calls++;
        long want = ((Number) plainMethods.get(m.getName()).invoke(plain, args)).longValue();
        String got;
        try {
            got = m.invoke(x, args).toString();
        } catch (InvocationTargetException thrown) {
            got = thrown.getCause().toString();
        }
        if (!got.equals(Long.toString(want))) {
            wrong++;
            System.out.println("run " + run + ": " + call + " answered " + got + ", due is " + want);
            System.out.println("  after " + told);
        }
        if (want >= 0) {
            fine.merge(m.getName(), 1, Integer::sum);
        }
    }

    private Object[] arguments(Method m) {
        Class<?>[] types = m.getParameterTypes();
        Object[] args = new Object[types.length];
        for (int i = 0; i < types.length; i++) {
            if (types[i] == boolean.class) {
                args[i] = random.nextBoolean();
            } else if (types[i] == long.class) {
                args[i] = random.nextLong();
            } else {
                args[i] = random.nextInt(40) == 0 ? WILD[random.nextInt(WILD.length)] : tame(m.getName(), i);
            }
        }
        return args;
    }

    private int from(int least, int most) {
        return least + random.nextInt(most - least + 1);
    }

    private int when() {
        return 100 * from(0, 24) + from(0, 42);
    }

    /** A number that the call's argument i may well have. */
    private int tame(String name, int i) {
        switch (name + i) {
            case "station0": return from(-1, 100);
            case "leg2": return from(-101, 101);
            case "leg3": return from(0, 10);
            case "mend0": return from(0, 12);
            case "mend1": case "span1": case "highest1": return from(-1, 2);
            case "mend2": return random.nextBoolean() ? from(0, 10) : from(-100, 100);
            case "point0": return random.nextInt(3) == 0 ? from(-1, 1000) : from(0, 140);
            case "point1": case "mass1": return random.nextBoolean() ? from(0, 3) : from(-1, 100);
            case "masses0": return from(-1, 3);
            case "sight0": case "next1": return from(0, 6);
            case "sight3": return random.nextInt(4) == 0 ? from(-100, 1000) : from(5, 12);
            case "mayBe1": return random.nextInt(4) == 0 ? from(-100, 1000) : from(0, 20);
            case "sight4": case "mayBe2": return when();
            case "sightOf0": case "foot0": case "falls0": case "hangs0": return from(-1, 24);
            case "sightOf1": return from(-1, 8);
            case "stationOf1": return from(-1, 5);
            case "believed1": return random.nextInt(5) == 0 ? 100 * from(-3, 9) : from(-50, 900);
            case "feed1": return from(0, 9);
            case "row0": case "alterRow0": return from(-1, 6);
            case "row1": case "alterRow1": return from(-1, 3);
            case "alterRow2": return from(-3, 9);
            case "sheet1": return random.nextBoolean() ? 1 : from(-2, 4);
            case "sheet2": return from(-1, 41);
            case "put1": case "item2": case "book2": return from(-1, random.nextBoolean() ? 6 : 40);
            case "put2": return random.nextBoolean() ? from(-120, 1020) : random.nextInt();
            case "item1": return random.nextBoolean() ? 1 : from(-1, 4);
            case "book3": return from(-1, 9);
            case "shelf1": return from(-1, 4);
            case "shelf2": return random.nextBoolean() ? from(0, 3) : from(0, 24);
            case "taken1": return from(-1, 14);
            case "act1": return from(-1, 4);
            case "act2": return random.nextBoolean() ? from(-100, 100) : random.nextInt();
            case "trace0": return from(-1, 10);
            case "many0": return from(-1, 9);
            default: return place(name);
        }
    }

    /** A number of a station, point, sheet or shelf. */
    private int place(String name) {
        boolean ofHost = name.equals("sheet") || name.equals("put") || name.equals("item") || name.equals("shelf")
                || name.equals("taken") || name.equals("act");
        return ofHost ? from(-1, 4) : from(-1, random.nextBoolean() ? 3 : 8);
    }

    private void feedText(FarHeights x, PlainHeights plain, List<String> told) {
        String text = random.nextInt(4) == 0 ? babble() : law();
        for (int at = 0; at < text.length(); at += 8) {
            int n = Math.min(8, text.length() - at);
            long eight = random.nextLong() << 8;
            for (int i = 0; i < n; i++) {
                eight = eight & ~(255L << 8 * i) | (text.charAt(at + i) & 255L) << 8 * i;
            }
            told.add("feed[" + eight + ", " + n + "]");
            same(told, x.feed(eight, n), plain.feed(eight, n));
        }
        told.add("read");
        same(told, x.read(), plain.read());
    }

    private void same(List<String> told, int got, int want) {
        calls++;
        if (got != want) {
            wrong++;
            System.out.println("a text answered " + got + ", due is " + want + " after " + told);
        }
    }

    private String babble() {
        StringBuilder b = new StringBuilder();
        for (int i = from(0, 12); i > 0; i--) {
            b.append(WORDS[random.nextInt(WORDS.length)]);
        }
        return b.toString();
    }

    /** A right law, or one with a few bytes changed. */
    private String law() {
        StringBuilder b = new StringBuilder();
        for (int i = from(0, random.nextInt(6) == 0 ? 9 : 4); i > 0; i--) {
            b.append("bend ").append(from(0, random.nextInt(9) == 0 ? 101 : 30));
            if (random.nextInt(4) != 0) {
                b.append(" if ").append(cond(random.nextInt(8) == 0 ? 4 : 2));
            }
            b.append(random.nextBoolean() ? ";" : " ; ");
        }
        if (b.length() > 0 && random.nextInt(4) == 0) {
            String[] swaps = {"", " ", "(", ")", "x", "9", ";", "="};
            int at = random.nextInt(b.length());
            b.replace(at, at + random.nextInt(2), swaps[random.nextInt(swaps.length)]);
        }
        return b.length() > 220 ? b.substring(0, 220) : b.toString();
    }

    private String cond(int depth) {
        StringBuilder b = new StringBuilder();
        for (int i = from(1, 3); i > 0; i--) {
            b.append(b.length() == 0 ? "" : random.nextBoolean() ? " and " : " or ");
            b.append(random.nextInt(4) == 0 ? "not " : "");
            if (depth > 0 && random.nextInt(4) == 0) {
                b.append("(").append(cond(depth - 1)).append(")");
            } else {
                b.append(value()).append("<=>".charAt(random.nextInt(3))).append(value());
            }
        }
        return b.toString();
    }

    private String value() {
        String[] names = {"heat", "hour", "away", "kind"};
        int most = random.nextInt(20) == 0 ? 1001 : random.nextBoolean() ? 5 : 30;
        return random.nextBoolean() ? names[random.nextInt(4)] : Integer.toString(from(0, most));
    }
}
