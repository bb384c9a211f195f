import java.lang.reflect.InvocationTargetException;
import java.lang.reflect.Method;
import java.lang.reflect.Modifier;
import java.util.ArrayList;
import java.util.HashMap;
import java.util.List;
import java.util.Map;

/**
 * A run of calls told as texts, such as "leg(0, 1, 30, 2)", for one sentence of the document. Each question goes
 * through the run again on a new object: so that no question changes what the next one meets, and a call that must
 * change nothing is held against the run without it. "#" in a call stands for each of the values behind it.
 */
final class Run {
    static final int MIN = Integer.MIN_VALUE, MAX = Integer.MAX_VALUE;
    static final int BAD = -1, FULL = -2, NONE = -3, STATE = -4;
    static final int LOW_BAD = -10000001, LOW_NONE = -10000003, LOW_STATE = -10000004;
    static final int NOTHING = -11, OUTSIDE = -12, OTHER = -13, BELOW_0 = -14, BY_0 = -15;

    private static final int MOST_CALLS = 512;
    private static final Map<String, Method> METHODS = new HashMap<>();

    private record Call(String told, Method method, Object[] args) { }

    private final Checks checks;
    private final String sentence;
    private final List<Call> calls = new ArrayList<>();
    /** What is seen after the calls so far; null till it is asked for. */
    private List<String> seen = null;

    static {
        for (Method m : FarHeights.class.getDeclaredMethods()) {
            if (Modifier.isPublic(m.getModifiers())) {
                METHODS.put(m.getName(), m);
            }
        }
    }

    Run(Checks checks, String sentence) {
        this.checks = checks;
        this.sentence = sentence;
    }

    /** Calls whose answers are asked for elsewhere. */
    Run does(String... more) {
        for (String call : more) {
            calls.add(parsed(call));
        }
        seen = null;
        return this;
    }

    /** The bytes of a text come to THE TAPE. */
    Run feeds(String text) {
        calls.addAll(feeding(text));
        seen = null;
        return this;
    }

    /** A text is read; its answer is asked for elsewhere. */
    Run reads(String text) {
        return feeds(text).does("read()");
    }

    /** A call of the run, with its answer. */
    Run then(String call, long want) {
        calls.add(parsed(call));
        seen = null;
        Doing doing = new Doing(calls);
        due(call, doing.last, want);
        return this;
    }

    /** What a call would answer now; the run goes on without it. */
    Run asks(String call, long want, long... values) {
        for (String each : filled(call, values)) {
            List<Call> with = new ArrayList<>(calls);
            with.add(parsed(each));
            due(each, new Doing(with).last, want);
        }
        return this;
    }

    /** What a call would answer behind another one; the run goes on without both. */
    Run asksBehind(String first, String call, long want) {
        List<Call> with = new ArrayList<>(calls);
        with.add(parsed(first));
        with.add(parsed(call));
        due(first + ", " + call, new Doing(with).last, want);
        return this;
    }

    /** What read() would answer of a text now; the run goes on without it. */
    Run asksText(String text, long want) {
        List<Call> with = new ArrayList<>(calls);
        with.addAll(feeding(text));
        with.add(parsed("read()"));
        due("read() of \"" + text + "\"", new Doing(with).last, want);
        return this;
    }

    /** A call that answers so and leaves all as it was. */
    Run leaves(String call, long want, long... values) {
        for (String each : filled(call, values)) {
            asks(each, want);
            List<Call> with = new ArrayList<>(calls);
            with.add(parsed(each));
            same(each, with);
        }
        return this;
    }

    /** As leaves(): for answers that are refusals. */
    Run refuses(String call, long want, long... values) {
        return leaves(call, want, values);
    }

    /** A faulty text: read() uses it up, and all else is as it was. The run's tape must be empty. */
    Run refusesText(String text, long want) {
        asksText(text, want);
        List<Call> with = new ArrayList<>(calls);
        with.addAll(feeding(text));
        with.add(parsed("read()"));
        same("read() of \"" + text + "\"", with);
        return this;
    }

    /** All that can be seen is the same after this run and after another one. */
    Run looksLike(Run other) {
        same("(all that is seen)", other.calls);
        return this;
    }

    /** Goes through the run on any object with these calls. */
    void goThroughOn(Object other) throws ReflectiveOperationException {
        for (Call call : calls) {
            Method same = other.getClass().getDeclaredMethod(call.method.getName(), call.method.getParameterTypes());
            same.invoke(other, call.args);
        }
    }

    private void same(String call, List<Call> with) {
        if (seen == null) {
            seen = Looks.at(this::replay);
        }
        List<String> now = Looks.at(() -> new Doing(with));
        String changed = "";
        for (int i = 0; i < Math.max(seen.size(), now.size()) && changed.isEmpty(); i++) {
            String was = i < seen.size() ? seen.get(i) : "nothing";
            String is = i < now.size() ? now.get(i) : "nothing";
            changed = was.equals(is) ? "" : was + " became " + is;
        }
        checks.right(changed.isEmpty(), sentence + ": by " + call + behind() + ": " + changed);
    }

    private Doing replay() {
        return new Doing(calls);
    }

    private void due(String call, String got, long want) {
        checks.right(got.equals(Long.toString(want)),
                sentence + ": " + call + " answered " + got + ", due is " + want + behind());
    }

    private String behind() {
        StringBuilder told = new StringBuilder(" behind");
        for (Call call : calls) {
            told.append(' ').append(call.told);
        }
        return told.toString();
    }

    private static List<String> filled(String call, long... values) {
        List<String> all = new ArrayList<>();
        if (values.length == 0) {
            all.add(call);
        }
        for (long value : values) {
            all.add(call.replace("#", Long.toString(value)));
        }
        return all;
    }

    private static Call parsed(String call) {
        int open = call.indexOf('(');
        Method method = METHODS.get(call.substring(0, open));
        String inner = call.substring(open + 1, call.length() - 1).trim();
        String[] parts = inner.isEmpty() ? new String[0] : inner.split(", *");
        Class<?>[] types = method.getParameterTypes();
        if (types.length != parts.length) {
            throw new IllegalArgumentException(call);
        }
        Object[] args = new Object[parts.length];
        for (int i = 0; i < parts.length; i++) {
            args[i] = types[i] == boolean.class ? (Object) parts[i].equals("true")
                    : types[i] == long.class ? (Object) Long.valueOf(parts[i]) : (Object) Integer.valueOf(parts[i]);
        }
        return new Call(call, method, args);
    }

    private static List<Call> feeding(String text) {
        List<Call> feeds = new ArrayList<>();
        for (int at = 0; at < text.length(); at += 8) {
            int n = Math.min(8, text.length() - at);
            long eight = 0;
            for (int i = 0; i < n; i++) {
                eight |= (text.charAt(at + i) & 255L) << (8 * i);
            }
            feeds.add(parsed("feed(" + eight + ", " + n + ")"));
        }
        return feeds;
    }

    /** A new object that has gone through calls; the document asks nothing of it after its 512th call. */
    static final class Doing {
        final FarHeights x = new FarHeights();
        private int done = 0;
        private String last = "nothing";

        private Doing(List<Call> calls) {
            for (Call call : calls) {
                count();
                try {
                    last = call.method.invoke(x, call.args).toString();
                } catch (InvocationTargetException thrown) {
                    last = thrown.getCause().toString();
                } catch (IllegalAccessException closed) {
                    throw new IllegalStateException(closed);
                }
            }
        }

        void count() {
            done++;
            if (done > MOST_CALLS) {
                throw new IllegalStateException("a test makes more than 512 calls of an object");
            }
        }
    }
}
