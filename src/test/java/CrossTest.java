import java.lang.reflect.InvocationTargetException;
import java.lang.reflect.Method;
import java.lang.reflect.Modifier;
import java.util.Arrays;
import java.util.List;
import java.util.function.UnaryOperator;

/**
 * All promises: each call with all numbers around all bounds at once, several of them wrong together, in an empty, a
 * mixed, a full and a contrary object, held against PlainHeights: so that of several refusals the first named is
 * answered, and none throws.
 */
public final class CrossTest {
    private static final int MIN = Integer.MIN_VALUE, MAX = Integer.MAX_VALUE;
    private static final Integer[] MANY = {MIN, -101, -100, -99, -15, -3, -2, -1, 0, 1, 2, 3, 4, 5, 6, 7, 8, 9, 10, 11, 12,
        13, 14, 22, 23, 24, 25, 30, 39, 40, 41, 50, 98, 99, 100, 101, 998, 999, 1000, 1220, 2340, 2341, 2400, MAX};
    private static final Integer[] SOME = {MIN, -100, -99, -1, 0, 1, 3, 4, 5, 6, 8, 9, 24, 40, 41, 99, 100, 1000, 2340, MAX};
    private static final Integer[] STATIONS = {MIN, -1, 0, 1, 3, 4, 5, 6, MAX};
    private static final Integer[] POINTS = {MIN, -1, 0, 4, 5, 7, 8, MAX};
    private static final Integer[] SHEETS = {MIN, -1, 0, 1, 2, 3, 4, MAX};
    private static final Checks CHECKS = new Checks("CrossTest");

    private final UnaryOperator<Run> house;
    private FarHeights x;
    private PlainHeights plain;
    private int used;

    private CrossTest(UnaryOperator<Run> house) throws ReflectiveOperationException {
        this.house = house;
        anew();
    }

    public static void main(String[] args) throws ReflectiveOperationException {
        List<UnaryOperator<Run>> houses = List.of(run -> run, Houses::mixed, Houses::full, CrossTest::contrary);
        for (UnaryOperator<Run> house : houses) {
            for (Method m : FarHeights.class.getDeclaredMethods()) {
                if (Modifier.isPublic(m.getModifiers())) {
                    new CrossTest(house).cross(m, new Object[m.getParameterCount()], 0);
                }
            }
        }
        CHECKS.end();
    }

    private static Run contrary(Run run) {
        return Houses.mixed(run).does("sight(3, 0, 1, 999, 0)", "masses(2)");
    }

    private void anew() throws ReflectiveOperationException {
        Run run = house.apply(new Run(CHECKS, "CrossTest"));
        x = new FarHeights();
        plain = new PlainHeights();
        run.goThroughOn(x);
        run.goThroughOn(plain);
        used = 0;
    }

    /** Fills the arguments from i on with all that they may be, and asks. */
    private void cross(Method m, Object[] args, int i) throws ReflectiveOperationException {
        if (i == args.length) {
            ask(m, args);
            return;
        }
        for (Object each : values(m, i)) {
            args[i] = each;
            cross(m, args, i + 1);
        }
    }

    private static Object[] values(Method m, int i) {
        Class<?> type = m.getParameterTypes()[i];
        if (type == boolean.class) {
            return new Object[] {true, false};
        }
        if (type == long.class) {
            return new Object[] {0L, -1L, 59L, Long.MIN_VALUE, Long.MAX_VALUE};
        }
        switch (m.getName() + i) {
            case "leg0": case "leg1": case "sight1": case "book0": return STATIONS;
            case "leg2": return new Integer[] {MIN, -100, -99, 0, 99, 100, MAX};
            case "leg3": case "book3": return new Integer[] {MIN, -1, 0, 1, 8, 9, 10, MAX};
            case "sight0": return new Integer[] {MIN, -1, 0, 1, 4, 5, 6, MAX};
            case "sight2": return POINTS;
            case "sight3": return new Integer[] {MIN, -100, -99, 5, 999, 1000, MAX};
            case "sight4": return new Integer[] {MIN, -1, 0, 40, 41, 2340, 2341, 2400, MAX};
            case "book1": return SHEETS;
            case "book2": return new Integer[] {MIN, -1, 0, 1, 7, 8, 33, 40, MAX - 7, MAX};
            default: return m.getParameterCount() > 2 ? SOME : MANY;
        }
    }

    private void ask(Method m, Object[] args) throws ReflectiveOperationException {
        Method same = PlainHeights.class.getDeclaredMethod(m.getName(), m.getParameterTypes());
        String want = same.invoke(plain, args).toString();
        String got;
        try {
            got = m.invoke(x, args).toString();
        } catch (InvocationTargetException thrown) {
            got = thrown.getCause().toString();
        }
        CHECKS.right(got.equals(want), m.getName() + Arrays.toString(args) + " answered " + got + ", due is " + want);
        used++;
        boolean refused = want.startsWith("-1000000") || want.equals("-1") || want.equals("-2");
        if (!refused || used == 300) {
            anew();
        }
    }
}
