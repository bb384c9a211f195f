import java.io.IOException;
import java.lang.reflect.Field;
import java.lang.reflect.Method;
import java.lang.reflect.Modifier;
import java.nio.file.Files;
import java.nio.file.Path;
import java.util.ArrayList;
import java.util.Arrays;
import java.util.List;
import java.util.TreeSet;
import java.util.regex.Matcher;
import java.util.regex.Pattern;

/** The rules of LANGUAGE.md that can be read off the class and its source; run from the project's folder. */
public final class LanguageTest {
    private static final Checks CHECKS = new Checks("LanguageTest");
    private static final Path SOURCE = Path.of("src/main/java/FarHeights.java");
    private static final String FACE = """
            int station(int)
            int leg(int,int,int,int)
            int mend(int,int,int)
            int stationOf(int,int)
            int again()
            int point(int,int)
            int mass(int,int)
            int masses(int)
            int sight(int,int,int,int,int)
            int sightOf(int,int)
            int falls(int,boolean)
            int foot(int,int)
            int span(int,int)
            int counted(int)
            int hangs(int)
            int mayBe(int,int,int)
            int next(int,int)
            int behind(int,int)
            long highest(int,int)
            int said(int)
            int believed(int,int)
            int feed(long,int)
            int read()
            int prove()
            int row(int,int)
            int alterRow(int,int,int)
            int judge()
            int sheet(int,int,int)
            int put(int,int,int)
            int item(int,int,int)
            int book(int,int,int,int)
            int shelf(int,int,int)
            int taken(int,int)
            int act(int,int,int)
            int trace(int)
            int many(int)
            int keep()
            int back()
            """;

    public static void main(String[] args) throws IOException {
        String source = Files.readString(SOURCE);
        face();
        members();
        text(source);
        newOnlyAtTheStart(source);
        methodsAreShort(source);
        CHECKS.end();
    }

    private static String signature(Method m) {
        List<String> types = new ArrayList<>();
        for (Class<?> type : m.getParameterTypes()) {
            types.add(type.getSimpleName());
        }
        return m.getReturnType().getSimpleName() + " " + m.getName() + "(" + String.join(",", types) + ")";
    }

    private static void face() {
        TreeSet<String> shown = new TreeSet<>();
        for (Method m : FarHeights.class.getDeclaredMethods()) {
            if (Modifier.isPublic(m.getModifiers())) {
                shown.add(signature(m));
            }
        }
        CHECKS.holds("rule 1: the face, which is " + shown, shown.equals(new TreeSet<>(Arrays.asList(FACE.split("\n")))));
        TreeSet<String> constants = new TreeSet<>();
        for (Field f : FarHeights.class.getFields()) {
            constants.add(f.getName());
        }
        CHECKS.holds("rule 1: the constants", constants.equals(new TreeSet<>(List.of("BAD", "FULL", "NONE", "STATE", "LOW"))));
        CHECKS.holds("rule 1: public and final", Modifier.isFinal(FarHeights.class.getModifiers()));
        CHECKS.due("rule 1: constructors", FarHeights.class.getDeclaredConstructors().length, 1);
    }

    private static void members() {
        TreeSet<String> open = new TreeSet<>();
        for (Method m : FarHeights.class.getDeclaredMethods()) {
            if (Modifier.isPublic(m.getModifiers())) {
                open.add(m.getName());
            } else {
                CHECKS.holds("rule 1: private " + m, Modifier.isPrivate(m.getModifiers()));
            }
        }
        for (Field f : FarHeights.class.getDeclaredFields()) {
            int mods = f.getModifiers();
            CHECKS.holds("rule 1: private " + f, Modifier.isPrivate(mods) || Modifier.isPublic(mods) && Modifier.isStatic(mods));
        }
        List<Class<?>> classes = new ArrayList<>(List.of(FarHeights.class.getDeclaredClasses()));
        for (Class<?> inner : classes) {
            CHECKS.holds("rule 2: static " + inner, Modifier.isStatic(inner.getModifiers()));
            CHECKS.holds("rule 1: not public " + inner, !Modifier.isPublic(inner.getModifiers()) && !Modifier.isProtected(inner.getModifiers()));
        }
        classes.add(FarHeights.class);
        CHECKS.holds("rule 11: at most twelve classes", classes.size() <= 12);
        for (Class<?> c : classes) {
            int fields = 0;
            for (Field f : c.getDeclaredFields()) {
                boolean isStatic = Modifier.isStatic(f.getModifiers());
                fields += isStatic ? 0 : 1;
                CHECKS.holds("rule 5: final " + f, !isStatic || Modifier.isFinal(f.getModifiers()));
            }
            CHECKS.holds("rule 11: fields of " + c, fields <= 20);
            for (Method m : c.getDeclaredMethods()) {
                CHECKS.holds("rule 11: parameters of " + m, m.getParameterCount() <= 7);
                boolean hides = c != FarHeights.class && open.contains(m.getName());
                CHECKS.holds("rule 1: the name of " + m, !hides);
                boolean twice = c == FarHeights.class && !Modifier.isPublic(m.getModifiers()) && open.contains(m.getName());
                CHECKS.holds("rule 1: the name of " + m, !twice);
            }
        }
    }

    /** The source without its comments. */
    private static String bare(String source) {
        return source.replaceAll("(?s)/\\*.*?\\*/", "").replaceAll("//[^\n]*", "");
    }

    private static void text(String source) {
        String code = bare(source);
        String[] words = {"throw", "throws", "try", "catch", "finally", "synchronized", "assert", "import", "package",
            "double", "float", "hashCode", "toString", "yield", "native", "volatile", "transient", "protected"};
        for (String word : words) {
            CHECKS.holds("rules 2 to 6: no " + word, !Pattern.compile("\\b" + word + "\\b").matcher(code).find());
        }
        CHECKS.holds("rule 2: no lambda, no method reference", !code.contains("->") && !code.contains("::"));
        CHECKS.holds("no annotation", !code.contains("@"));
        CHECKS.holds("signs 1 to 127", source.chars().allMatch(c -> c >= 1 && c <= 127));
        Matcher m = Pattern.compile("\\b(Math|System|Arrays|Integer|Long|String|List|Thread|Objects)\\.(\\w+)").matcher(code);
        while (m.find()) {
            String used = m.group(1) + "." + m.group(2);
            CHECKS.holds("rule 4: " + used, List.of("Math.abs", "Math.min", "Math.max", "System.arraycopy").contains(used));
        }
    }

    /** Calls make nothing: what an object needs is made with it. */
    private static void newOnlyAtTheStart(String source) {
        for (String line : bare(source).split("\n")) {
            if (line.contains("new ")) {
                boolean field = line.matches(" +(private )?final [\\w\\[\\]]+ \\w+ = new .*;");
                boolean thing = line.matches("        things\\[\\w+\\] = new \\w+\\(\\);");
                CHECKS.holds("rule 12: made at the start: " + line, field || thing);
            }
        }
    }

    private static void methodsAreShort(String source) {
        int began = -1;
        String[] lines = source.split("\n");
        for (int i = 0; i < lines.length; i++) {
            if (lines[i].matches(" {4}(public|private) [^=;]*\\) \\{| {8}[\\w \\[\\]]+\\([^=;]*\\) \\{")) {
                began = i;
            }
            if (lines[i].matches(" {4}\\}| {8}\\}") && began >= 0) {
                CHECKS.holds("rule 11: length of " + lines[began], i - began < 60);
                began = -1;
            }
            CHECKS.holds("a line's length: " + lines[i], lines[i].length() <= 120);
        }
    }
}
