import java.io.PrintWriter;
import java.io.StringWriter;
import java.util.ArrayList;
import java.util.List;
import java.util.Map;
import java.util.Optional;
import java.util.TreeMap;
import java.util.TreeSet;
import java.util.regex.Matcher;
import java.util.regex.Pattern;
import java.util.spi.ToolProvider;

/**
 * LANGUAGE.md, rule 11: calls that are no recursion go at most eight deep. Read off the compiled class by javap; a call
 * that a class may answer otherwise is counted as if each of them could answer, also where none such is ever there.
 */
public final class CallDepthTest {
    private static final int MOST = 8;
    private static final Checks CHECKS = new Checks("CallDepthTest");
    private static final Pattern CLASS = Pattern.compile("(?:\\w+ )*class ([\\w$]+)(?: extends ([\\w$.]+))? \\{");
    private static final Pattern METHOD = Pattern.compile("  (?! )[^(]*?([\\w$]+)\\([^)]*\\);");
    private static final Pattern CALL = Pattern.compile(" +\\d+: (invoke\\w+).*// Method (?:([\\w$]+)\\.)?\"?([\\w<>]+)\"?:.*");

    private final Map<String, String> above = new TreeMap<>();
    private final Map<String, TreeSet<String>> calls = new TreeMap<>();

    public static void main(String[] args) {
        Optional<ToolProvider> javap = ToolProvider.findFirst("javap");
        if (javap.isEmpty()) {
            System.out.println("CallDepthTest: this Java has no javap; how deep calls go was not looked at");
            return;
        }
        String code = codeBy(javap.get());
        CallDepthTest test = new CallDepthTest();
        test.readClasses(code);
        test.readCalls(code);
        test.look();
        CHECKS.end();
    }

    private static String codeBy(ToolProvider javap) {
        List<String> asked = new ArrayList<>(List.of("-c", "-p", "-cp", System.getProperty("java.class.path"), "FarHeights"));
        for (Class<?> inner : FarHeights.class.getDeclaredClasses()) {
            asked.add(inner.getName());
        }
        StringWriter out = new StringWriter();
        PrintWriter writer = new PrintWriter(out);
        int ended = javap.run(writer, writer, asked.toArray(new String[0]));
        CHECKS.due("javap", ended, 0);
        return out.toString();
    }

    private void readClasses(String code) {
        for (String line : code.split("\\R")) {
            Matcher m = CLASS.matcher(line);
            if (m.matches()) {
                above.put(m.group(1), m.group(2) == null ? "" : m.group(2));
            }
        }
        CHECKS.due("classes", above.size(), FarHeights.class.getDeclaredClasses().length + 1);
    }

    private void readCalls(String code) {
        // twice: a call finds its body only after all bodies have been seen
        for (int round = 0; round < 2; round++) {
            String inside = "";
            String method = "";
            for (String line : code.split("\\R")) {
                Matcher m = CLASS.matcher(line);
                if (m.matches()) {
                    inside = m.group(1);
                }
                m = METHOD.matcher(line);
                if (m.matches()) {
                    method = inside + "." + (m.group(1).equals(inside) ? "<init>" : m.group(1));
                    calls.computeIfAbsent(method, name -> new TreeSet<>());
                }
                m = CALL.matcher(line);
                if (m.matches() && round == 1) {
                    String of = m.group(2) == null ? inside : m.group(2);
                    calls.get(method).addAll(bodies(m.group(1), of, m.group(3)));
                }
            }
        }
    }

    private List<String> bodies(String how, String of, String name) {
        List<String> found = new ArrayList<>();
        for (String each : above.keySet()) {
            boolean may = each.equals(of) || how.equals("invokevirtual") && isUnder(each, of);
            String body = may ? bodyOf(each, name) : "";
            if (!body.isEmpty()) {
                found.add(body);
            }
        }
        return found;
    }

    private boolean isUnder(String each, String of) {
        for (String at = each; above.containsKey(at); at = above.get(at)) {
            if (at.equals(of)) {
                return true;
            }
        }
        return false;
    }

    private String bodyOf(String of, String name) {
        for (String at = of; above.containsKey(at); at = above.get(at)) {
            if (calls.containsKey(at + "." + name)) {
                return at + "." + name;
            }
        }
        return "";
    }

    private void look() {
        int begun = 0;
        for (String method : calls.keySet()) {
            if (method.startsWith("FarHeights.")) {
                List<String> deepest = deepest(method, List.of());
                CHECKS.right(deepest.size() <= MOST, "rule 11: " + deepest.size() + " deep: " + String.join(" > ", deepest));
                begun++;
            }
        }
        CHECKS.holds("the calls of the class were found", begun >= 39);
        CHECKS.holds("calls of calls were found", deepest("FarHeights.act", List.of()).size() > 3);
    }

    /** The longest chain of calls from a method; one that stands open already is recursion, and not counted again. */
    private List<String> deepest(String method, List<String> open) {
        List<String> now = new ArrayList<>(open);
        now.add(method);
        List<String> best = now;
        for (String next : calls.get(method)) {
            if (!now.contains(next)) {
                List<String> chain = deepest(next, now);
                best = chain.size() > best.size() ? chain : best;
            }
        }
        return best;
    }
}
