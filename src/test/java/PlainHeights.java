import java.math.BigInteger;
import java.util.ArrayList;
import java.util.List;
import java.util.TreeSet;
import java.util.regex.Matcher;
import java.util.regex.Pattern;

/**
 * The document once more, by its words and in the slowest way: ways are walked, feet are counted,
 * things are objects that throw. RandomRunsTest holds FarHeights against it.
 */
final class PlainHeights {
    private static final int BAD = -1, FULL = -2, NONE = -3, STATE = -4, LOW = -10000000;

    private record Leg(int a, int b, int rise, int slip) { }

    private record Point(int place, int mass) { }

    private record Sight(int kind, int s, int p, int slant, int hour, int heat, boolean stands) { }

    private record Line(int n, List<String> cond) { }

    private record Kept(List<Integer> stations, List<Leg> legs, List<Point> points, List<Sight> sights,
            List<Line> law, int massLaw) { }

    private List<Integer> stations = new ArrayList<>();
    private List<Leg> legs = new ArrayList<>();
    private List<Point> points = new ArrayList<>();
    private List<Sight> sights = new ArrayList<>();
    private List<Line> law = new ArrayList<>();
    private int massLaw = 0;
    private Kept kept = null;
    private StringBuilder tape = new StringBuilder();
    private List<int[]> rows = new ArrayList<>();
    private final Object[] sheets = new Object[4];
    private final Object[] shelves = new Object[4];
    private final List<Integer> trace = new ArrayList<>();

    /** What a shelf holds of a sight or a point: its number, looked up when it is used. */
    private record Held(boolean sight, int n) { }

    // ---- stations, legs

    public int station(int place) {
        if (place < 0 || place > 99) return BAD;
        if (stations.size() == 6) return FULL;
        stations.add(place);
        return stations.size() - 1;
    }

    private boolean noStation(int s) {
        return s < 0 || s >= stations.size();
    }

    public int leg(int a, int b, int rise, int slip) {
        if (noStation(a) || noStation(b) || a == b) return BAD;
        if (rise < -99 || rise > 99 || slip < 1 || slip > 9) return BAD;
        if (legs.size() == 12) return FULL;
        legs.add(new Leg(a, b, rise, slip));
        return legs.size() - 1;
    }

    public int mend(int leg, int what, int n) {
        if (leg < 0 || leg >= legs.size() || what < 0 || what > 1) return LOW + BAD;
        Leg l = legs.get(leg);
        if (what == 0) {
            if (n < -99 || n > 99) return LOW + BAD;
            legs.set(leg, new Leg(l.a, l.b, n, l.slip));
            return l.rise;
        }
        if (n < 1 || n > 9) return LOW + BAD;
        legs.set(leg, new Leg(l.a, l.b, l.rise, n));
        return l.slip;
    }

    /** The least slips of a way from 0 to s that goes through no station twice; -1 without. */
    private int doubt(int s, List<Leg> over) {
        return noStation(0) ? -1 : leastWay(0, s, over, 1);
    }

    private int leastWay(int from, int to, List<Leg> over, int been) {
        if (from == to) return 0;
        int least = -1;
        for (Leg l : over) {
            int other = l.a == from ? l.b : l.b == from ? l.a : -1;
            if (other < 0 || (been >> other & 1) == 1) continue;
            int rest = leastWay(other, to, over, been | 1 << other);
            if (rest >= 0 && (least < 0 || rest + l.slip < least)) least = rest + l.slip;
        }
        return least;
    }

    private boolean hasLevel(int s) {
        return !noStation(s) && doubt(s, legs) >= 0;
    }

    private int lastLeg(int s) {
        if (s == 0) return -9;
        for (int i = 0; i < legs.size(); i++) {
            Leg l = legs.get(i);
            int other = l.a == s ? l.b : l.b == s ? l.a : -1;
            if (other < 0 || !hasLevel(other)) continue;
            if (doubt(other, legs) + l.slip == doubt(s, legs)) return i;
        }
        throw new IllegalStateException("no last leg");
    }

    private int level(int s) {
        if (s == 0) return 0;
        Leg l = legs.get(lastLeg(s));
        return l.b == s ? level(l.a) + l.rise : level(l.b) - l.rise;
    }

    public int stationOf(int s, int what) {
        if (noStation(s) || what < 0 || what > 4) return LOW + BAD;
        if (what == 3) return stations.get(s);
        if (what == 4) return lean(s);
        if (!hasLevel(s)) return LOW + NONE;
        return what == 0 ? level(s) : what == 1 ? doubt(s, legs) : lastLeg(s);
    }

    public int again() {
        int best = NONE;
        int least = Integer.MAX_VALUE;
        for (int i = 0; i < legs.size(); i++) {
            List<Leg> eased = new ArrayList<>(legs);
            Leg l = legs.get(i);
            eased.set(i, new Leg(l.a, l.b, l.rise, 1));
            int sum = 0;
            for (int s = 0; s < stations.size(); s++) sum += Math.max(0, doubt(s, eased));
            if (sum < least) {
                least = sum;
                best = i;
            }
        }
        return best;
    }

    // ---- points, sights

    private boolean noPoint(int p) {
        return p < 0 || p >= points.size();
    }

    private boolean noSight(int k) {
        return k < 0 || k >= sights.size();
    }

    public int point(int place, int mass) {
        if (place < 0 || place > 999 || mass < 0 || mass > 99) return BAD;
        if (points.size() == 8) return FULL;
        points.add(new Point(place, mass));
        return points.size() - 1;
    }

    public int mass(int p, int n) {
        if (noPoint(p) || n < 0 || n > 99) return BAD;
        return points.set(p, new Point(points.get(p).place, n)).mass;
    }

    public int masses(int n) {
        if (n < 0 || n > 2) return BAD;
        int was = massLaw;
        massLaw = n;
        return was;
    }

    private static boolean badSlant(int slant) {
        return slant < -99 || slant > 999;
    }

    private static boolean badWhen(int when) {
        if (when < 0) return true;
        return when / 100 > 23 || when % 100 > 40;
    }

    public int sight(int kind, int s, int p, int slant, int when) {
        if (kind < 1 || kind > 5 || noStation(s) || noPoint(p) || badSlant(slant) || badWhen(when)) return BAD;
        if (sights.size() == 24) return FULL;
        sights.add(new Sight(kind, s, p, slant, when / 100, when % 100, true));
        return sights.size() - 1;
    }

    private int away(int s, int p) {
        int d = stations.get(s) - points.get(p).place;
        return d < 0 ? -d : d;
    }

    private int lean(int s) {
        int sum = 0;
        for (int p = 0; p < points.size(); p++) {
            int d = away(s, p);
            int pull = points.get(p).mass * 100 / (d * d + 1);
            if (points.get(p).place < stations.get(s)) sum -= pull;
            else sum += pull;
        }
        int[] times = {4, 2, 1};
        return sum * times[massLaw] / 4;
    }

    private int told(Sight k) {
        int n = 0;
        for (Line line : law) {
            if (line.cond.isEmpty() || new Asker(k, away(k.s, k.p), line.cond).holds()) n = line.n;
        }
        return n;
    }

    private int bend(Sight k) {
        int told = told(k);
        return switch (k.kind) {
            case 1 -> 2 * told;
            case 2 -> told / 2;
            case 3 -> 0;
            case 4 -> 2 * told + away(k.s, k.p) / 10;
            default -> told / 2 + 1;
        };
    }

    private int slack(int kind, int s, int p) {
        return switch (kind) {
            case 1 -> 3;
            case 2 -> 5;
            case 3 -> 1;
            case 4 -> 3 + away(s, p) / 50;
            default -> 10;
        };
    }

    public int sightOf(int k, int what) {
        if (noSight(k) || what < 0 || what > 7) return LOW + BAD;
        Sight t = sights.get(k);
        return switch (what) {
            case 0 -> t.kind;
            case 1 -> t.s;
            case 2 -> t.p;
            case 3 -> t.slant;
            case 4 -> told(t);
            case 5 -> bend(t);
            case 6 -> slack(t.kind, t.s, t.p);
            default -> t.stands ? 1 : 0;
        };
    }

    public int falls(int k, boolean on) {
        if (noSight(k)) return BAD;
        Sight t = sights.get(k);
        sights.set(k, new Sight(t.kind, t.s, t.p, t.slant, t.hour, t.heat, !on));
        return t.stands == on ? 1 : 0;
    }

    private int footOf(Sight k) {
        int d = away(k.s, k.p);
        return level(k.s) + (k.slant - bend(k) - lean(k.s)) * d / 10 + d * d / 200;
    }

    private int reach(Sight k) {
        return slack(k.kind, k.s, k.p) + doubt(k.s, legs);
    }

    public int foot(int k, int what) {
        if (noSight(k) || what < 0 || what > 2) return LOW + BAD;
        Sight t = sights.get(k);
        if (!hasLevel(t.s)) return LOW + NONE;
        int[] sides = {0, -1, 1};
        return footOf(t) + sides[what] * reach(t);
    }

    private boolean counts(int k) {
        return sights.get(k).stands && hasLevel(sights.get(k).s);
    }

    /** All feet of a span: null without sights that count, empty if they are contrary. */
    private TreeSet<Integer> feet(int p, int without) {
        TreeSet<Integer> feet = null;
        for (int k = 0; k < sights.size(); k++) {
            if (k == without || sights.get(k).p != p || !counts(k)) continue;
            TreeSet<Integer> mine = reached(sights.get(k));
            if (feet == null) feet = mine;
            else feet.retainAll(mine);
        }
        return feet;
    }

    private TreeSet<Integer> reached(Sight k) {
        TreeSet<Integer> feet = new TreeSet<>();
        int reach = reach(k);
        int foot = footOf(k);
        for (int f = -reach; f <= reach; f++) feet.add(foot + f);
        return feet;
    }

    public int span(int p, int what) {
        if (noPoint(p) || what < 0 || what > 1) return LOW + BAD;
        TreeSet<Integer> feet = feet(p, -1);
        if (feet == null) return LOW + NONE;
        if (feet.isEmpty()) return LOW + STATE;
        return what == 0 ? feet.first() : feet.last();
    }

    public int counted(int p) {
        if (noPoint(p)) return BAD;
        int bits = 0;
        for (int k = 0; k < sights.size(); k++) if (sights.get(k).p == p && counts(k)) bits += 1 << k;
        return bits;
    }

    public int hangs(int k) {
        if (noSight(k)) return BAD;
        if (!counts(k)) return NONE;
        TreeSet<Integer> with = feet(sights.get(k).p, -1);
        TreeSet<Integer> without = feet(sights.get(k).p, k);
        if (without == null) return -9;
        if (with.isEmpty() || without.isEmpty()) return STATE;
        return without.size() - with.size();
    }

    public int mayBe(int s, int slant, int when) {
        if (noStation(s) || badSlant(slant) || badWhen(when)) return BAD;
        if (!hasLevel(s)) return NONE;
        int bits = 0;
        for (int p = 0; p < points.size(); p++) {
            TreeSet<Integer> feet = feet(p, -1);
            if (feet == null) continue;
            feet.retainAll(reached(new Sight(2, s, p, slant, when / 100, when % 100, true)));
            if (!feet.isEmpty()) bits += 1 << p;
        }
        return bits;
    }

    public int next(int p, int kind) {
        if (noPoint(p) || kind < 1 || kind > 5) return BAD;
        int best = NONE;
        int least = Integer.MAX_VALUE;
        for (int s = 0; s < stations.size(); s++) {
            if (!hasLevel(s)) continue;
            int both = slack(kind, s, p) + doubt(s, legs);
            if (both < least) {
                least = both;
                best = s;
            }
        }
        return best;
    }

    // ---- behind, the highest, numbers

    private boolean hasSpan(int p) {
        TreeSet<Integer> feet = feet(p, -1);
        return feet != null && !feet.isEmpty();
    }

    public int behind(int s, int q) {
        if (noStation(s) || noPoint(q)) return BAD;
        if (!hasLevel(s)) return NONE;
        int bits = 0;
        for (int p = 0; p < points.size(); p++) if (isBehind(s, p, q)) bits += 1 << p;
        return bits;
    }

    private boolean isBehind(int s, int p, int q) {
        if (!hasSpan(p) || !hasSpan(q)) return false;
        int from = stations.get(s);
        if (points.get(p).place <= from || points.get(q).place <= from) return false;
        if (points.get(p).place >= points.get(q).place) return false;
        BigInteger left = BigInteger.valueOf(span(p, 0) - level(s)).multiply(BigInteger.valueOf(away(s, q)));
        BigInteger right = BigInteger.valueOf(span(q, 1) - level(s)).multiply(BigInteger.valueOf(away(s, p)));
        return left.compareTo(right) > 0;
    }

    public long highest(int p, int part) {
        if (noPoint(p) || part < 0 || part > 1) return BAD;
        if (feet(p, -1) == null) return NONE;
        List<Integer> who = new ArrayList<>();
        List<TreeSet<Integer>> all = new ArrayList<>();
        for (int q = 0; q < points.size(); q++) {
            TreeSet<Integer> feet = feet(q, -1);
            if (feet == null) continue;
            if (feet.isEmpty()) return STATE;
            who.add(q);
            all.add(feet);
        }
        BigInteger above = BigInteger.ZERO;
        BigInteger below = BigInteger.ONE;
        for (TreeSet<Integer> feet : all) below = below.multiply(BigInteger.valueOf(feet.size()));
        for (int mine : all.get(who.indexOf(p))) {
            BigInteger ways = BigInteger.ONE;
            for (int i = 0; i < who.size(); i++) {
                if (who.get(i) == p) continue;
                boolean likeOnesLose = who.get(i) > p;
                ways = ways.multiply(BigInteger.valueOf(all.get(i).headSet(mine, likeOnesLose).size()));
            }
            above = above.add(ways);
        }
        BigInteger shared = above.gcd(below);
        return (part == 0 ? above : below).divide(shared).longValueExact();
    }

    public int said(int p) {
        if (noPoint(p)) return LOW + BAD;
        int low = span(p, 0);
        if (low < LOW) return low;
        int number = (low + span(p, 1)) / 2;
        return number % 100 == 0 ? number + 2 : number;
    }

    public int believed(int p, int number) {
        if (noPoint(p)) return BAD;
        TreeSet<Integer> feet = feet(p, -1);
        return feet != null && feet.contains(number) && number % 100 != 0 ? 1 : 0;
    }

    // ---- the law

    public int feed(long eight, int n) {
        if (n < 1 || n > 8) return BAD;
        if (tape.length() + n > 200) return FULL;
        for (int i = 0; i < n; i++) tape.append((char) (eight >> 8 * i & 255));
        return tape.length();
    }

    private static final Pattern TOKEN = Pattern.compile("[a-z]+|[0-9]+|[^ ]", Pattern.DOTALL);

    /** The fault as an automaton finds it: which tokens may come after which. */
    public int read() {
        String text = tape.toString();
        tape = new StringBuilder();
        List<Line> read = new ArrayList<>();
        List<String> cond = new ArrayList<>();
        String state = "line";
        int n = 0;
        int open = 0;
        Matcher m = TOKEN.matcher(text);
        while (m.find()) {
            String t = m.group();
            boolean value = t.matches("[0-9]{1,3}|heat|hour|away|kind");
            String then = "";
            switch (state) {
                case "line":
                    if (t.equals("bend") && read.size() < 8) then = "n";
                    break;
                case "n":
                    if (t.matches("[0-9]{1,3}") && Integer.parseInt(t) <= 99) {
                        n = Integer.parseInt(t);
                        then = "n read";
                    }
                    break;
                case "n read":
                    if (t.equals("if")) then = "one";
                    if (t.equals(";")) then = "line";
                    break;
                case "one":
                    if (t.equals("not")) then = "one";
                    if (t.equals("(") && open < 3) {
                        open++;
                        then = "one";
                    }
                    if (value) then = "sign";
                    break;
                case "sign":
                    if (t.matches("[<=>]")) then = "value";
                    break;
                case "value":
                    if (value) then = "one read";
                    break;
                default:
                    if (t.equals("and") || t.equals("or")) then = "one";
                    if (t.equals(")") && open > 0) {
                        open--;
                        then = "one read";
                    }
                    if (t.equals(";") && open == 0) then = "line";
            }
            if (then.isEmpty()) return -100 - m.start();
            if (then.equals("line")) {
                read.add(new Line(n, cond));
                cond = new ArrayList<>();
            } else if (!t.equals("bend") && !then.equals("n read") && !t.equals("if")) {
                cond.add(t);
            }
            state = then;
        }
        if (!state.equals("line")) return -100 - text.length();
        law = read;
        return law.size();
    }

    /** Asks a sight a condition, token by token. */
    private static final class Asker {
        private final Sight sight;
        private final int away;
        private final List<String> cond;
        private int at = 0;

        Asker(Sight sight, int away, List<String> cond) {
            this.sight = sight;
            this.away = away;
            this.cond = cond;
        }

        boolean holds() {
            boolean any = false;
            do {
                boolean all = true;
                do {
                    all &= one();
                } while (taken("and"));
                any |= all;
            } while (taken("or"));
            return any;
        }

        private boolean taken(String word) {
            boolean is = at < cond.size() && cond.get(at).equals(word);
            if (is) at++;
            return is;
        }

        private boolean one() {
            if (taken("not")) return !one();
            if (taken("(")) {
                boolean inner = holds();
                if (!taken(")")) throw new IllegalStateException("no )");
                return inner;
            }
            int left = value();
            String sign = cond.get(at++);
            int right = value();
            return sign.equals("<") ? left < right : sign.equals(">") ? left > right : left == right;
        }

        private int value() {
            String word = cond.get(at++);
            return switch (word) {
                case "heat" -> sight.heat;
                case "hour" -> sight.hour;
                case "away" -> away;
                case "kind" -> sight.kind;
                default -> Integer.parseInt(word);
            };
        }
    }

    // ---- rows

    public int prove() {
        rows = new ArrayList<>();
        for (int s = 0; s < stations.size(); s++) {
            if (hasLevel(s)) rows.add(new int[] {s, level(s), doubt(s, legs)});
        }
        return rows.size();
    }

    public int row(int i, int what) {
        if (i < 0 || i >= rows.size() || what < 0 || what > 2) return LOW + BAD;
        return rows.get(i)[what];
    }

    public int alterRow(int i, int what, int v) {
        if (i < 0 || i >= rows.size() || what < 0 || what > 2) return LOW + BAD;
        int was = rows.get(i)[what];
        rows.get(i)[what] = v;
        return was;
    }

    public int judge() {
        TreeSet<Integer> named = new TreeSet<>();
        for (int i = 0; i < rows.size(); i++) {
            int[] r = rows.get(i);
            if (!hasLevel(r[0])) return i + 1;
            if (i > 0 && r[0] <= rows.get(i - 1)[0]) return i + 1;
            if (r[1] != level(r[0]) || r[2] != doubt(r[0], legs)) return i + 1;
            named.add(r[0]);
        }
        for (int s = 0; s < stations.size(); s++) if (hasLevel(s) && !named.contains(s)) return 22;
        return 0;
    }

    // ---- the host

    public int sheet(int sheet, int sort, int n) {
        if (sheet < 0 || sheet > 3 || sort < -1 || sort > 3) return BAD;
        if (sort == -1) {
            sheets[sheet] = null;
            return 1;
        }
        if (n > 40) return BAD;
        if (n < 0) return -14;
        sheets[sheet] = switch (sort) {
            case 0 -> new byte[n];
            case 1 -> new short[n];
            case 2 -> new int[n];
            default -> new long[n];
        };
        return 1;
    }

    public int put(int sheet, int i, int v) {
        if (sheet < 0 || sheet > 3) return BAD;
        if (sheets[sheet] == null) return -11;
        if (i < 0 || i >= java.lang.reflect.Array.getLength(sheets[sheet])) return -12;
        if (sheets[sheet] instanceof byte[] b) b[i] = (byte) v;
        else if (sheets[sheet] instanceof short[] b) b[i] = (short) v;
        else if (sheets[sheet] instanceof int[] b) b[i] = v;
        else if (sheets[sheet] instanceof long[] b) b[i] = v;
        return 1;
    }

    private static int sortOf(Object row) {
        return row instanceof byte[] ? 0 : row instanceof short[] ? 1 : row instanceof int[] ? 2 : 3;
    }

    public int item(int sheet, int sort, int i) {
        if (sheet < 0 || sheet > 3 || sort < 0 || sort > 3) return BAD;
        Object row = sheets[sheet];
        if (row != null && sortOf(row) != sort) return -13;
        if (row == null) return -11;
        if (i < 0 || i >= java.lang.reflect.Array.getLength(row)) return -12;
        return (int) java.lang.reflect.Array.getLong(row, i);
    }

    public int book(int s, int sheet, int i, int n) {
        if (noStation(s) || sheet < 0 || sheet > 3 || n < 0 || n > 8) return BAD;
        if (sheets[sheet] != null && !(sheets[sheet] instanceof short[])) return -13;
        if (sheets[sheet] == null) return -11;
        short[] slants = (short[]) sheets[sheet];
        int came = 0;
        for (int p = 0; p < n; p++) {
            long at = (long) i + p;
            if (at < 0 || at >= slants.length) return -12;
            if (sight(2, s, p, slants[(int) at], 1220) >= 0) came++;
        }
        return came;
    }

    public int shelf(int shelf, int what, int n) {
        if (shelf < 0 || shelf > 3 || what < 0 || what > 3) return BAD;
        if (what == 0 && noSight(n) || what == 1 && noPoint(n) || what == 2 && (n < 0 || n > 3)) return BAD;
        shelves[shelf] = what == 3 ? null : what == 2 ? sheets[n] : new Held(what == 0, n);
        return 1;
    }

    /** What a shelf holds now: a Thing, a row or null. */
    private Object on(int shelf) {
        if (!(shelves[shelf] instanceof Held held)) return shelves[shelf];
        if (held.sight ? noSight(held.n) : noPoint(held.n)) return null;
        return held.sight ? thing(sights.get(held.n).kind, held.n, sights.get(held.n).slant)
                : new PointThing(trace, held.n, points.get(held.n).mass);
    }

    private Thing thing(int kind, int n, int a) {
        return switch (kind) {
            case 1 -> new MorningThing(trace, n, a);
            case 2 -> new NoonThing(trace, n, a);
            case 3 -> new BothThing(trace, n, a);
            case 4 -> new FarThing(trace, n, a);
            default -> new HiddenThing(trace, n, a);
        };
    }

    public int taken(int shelf, int as) {
        if (shelf < 0 || shelf > 3 || as < 0 || as > 13 || as > 6 && as < 10) return BAD;
        Object held = on(shelf);
        if (held == null) return -11;
        if (as >= 10) {
            if (held instanceof Thing || sortOf(held) != as - 10) return -13;
            return java.lang.reflect.Array.getLength(held);
        }
        Class<?>[] kinds = {SightThing.class, MorningThing.class, NoonThing.class, BothThing.class,
            FarThing.class, HiddenThing.class, PointThing.class};
        return kinds[as].isInstance(held) ? ((Thing) held).n : -13;
    }

    public int act(int shelf, int act, int x) {
        trace.clear();
        if (shelf < 0 || shelf > 3 || act < 0 || act > 3 || !(on(shelf) instanceof Thing thing)) return 0;
        try {
            return switch (act) {
                case 0 -> thing.sees(x);
                case 1 -> thing.bends(x);
                case 2 -> thing.leans(x);
                default -> thing.tells(x);
            };
        } catch (ArithmeticException partedBy0) {
            return -15;
        }
    }

    public int trace(int i) {
        return i < 0 || i >= trace.size() || i >= 30 ? NONE : trace.get(i);
    }

    public int many(int what) {
        int counted = 0;
        for (int k = 0; k < sights.size(); k++) if (counts(k)) counted++;
        return switch (what) {
            case 0 -> stations.size();
            case 1 -> legs.size();
            case 2 -> points.size();
            case 3 -> sights.size();
            case 4 -> counted;
            case 5 -> law.size();
            case 6 -> rows.size();
            case 7 -> tape.length();
            case 8 -> Math.min(30, trace.size());
            default -> BAD;
        };
    }

    // ---- kept

    private static Kept copyOf(Kept k) {
        return new Kept(new ArrayList<>(k.stations), new ArrayList<>(k.legs), new ArrayList<>(k.points),
                new ArrayList<>(k.sights), new ArrayList<>(k.law), k.massLaw);
    }

    public int keep() {
        kept = copyOf(new Kept(stations, legs, points, sights, law, massLaw));
        return 1;
    }

    public int back() {
        if (kept == null) return NONE;
        Kept k = copyOf(kept);
        stations = k.stations;
        legs = k.legs;
        points = k.points;
        sights = k.sights;
        law = k.law;
        massLaw = k.massLaw;
        return 1;
    }

    // ---- things

    private abstract static class Thing {
        final List<Integer> trace;
        final int n;
        final int a;

        Thing(List<Integer> trace, int n, int a) {
            this.trace = trace;
            this.n = n;
            this.a = a;
        }

        abstract int sees(int x);

        abstract int bends(int x);

        abstract int leans(int x);

        abstract int tells(int x);
    }

    private abstract static class SightThing extends Thing {
        SightThing(List<Integer> trace, int n, int a) { super(trace, n, a); }

        @Override int sees(int x) { trace.add(10); return x + a; }

        @Override int bends(int x) { trace.add(11); return sees(x) * 2; }

        @Override int leans(int x) { trace.add(12); return x / (a - n); }

        @Override int tells(int x) { trace.add(13); return bends(x) ^ n; }
    }

    private static class MorningThing extends SightThing {
        MorningThing(List<Integer> trace, int n, int a) { super(trace, n, a); }

        @Override int bends(int x) { trace.add(20); return super.bends(x) + 7; }
    }

    private static class NoonThing extends SightThing {
        NoonThing(List<Integer> trace, int n, int a) { super(trace, n, a); }

        @Override int sees(int x) { trace.add(30); return super.sees(x) - n; }
    }

    private static final class BothThing extends SightThing {
        BothThing(List<Integer> trace, int n, int a) { super(trace, n, a); }

        @Override int leans(int x) { trace.add(40); return super.leans(x + 1) * 2; }
    }

    private static final class FarThing extends MorningThing {
        FarThing(List<Integer> trace, int n, int a) { super(trace, n, a); }

        @Override int sees(int x) { trace.add(50); return super.sees(x) ^ 3; }

        @Override int tells(int x) { trace.add(51); return super.tells(x) + leans(n); }
    }

    private static final class HiddenThing extends NoonThing {
        HiddenThing(List<Integer> trace, int n, int a) { super(trace, n, a); }

        @Override int sees(int x) { trace.add(60); return 0 - super.sees(x); }

        @Override int bends(int x) { trace.add(61); return super.bends(x) + sees(n); }
    }

    private static final class PointThing extends Thing {
        PointThing(List<Integer> trace, int n, int a) { super(trace, n, a); }

        @Override int sees(int x) { trace.add(70); return x * a; }

        @Override int bends(int x) { trace.add(71); return sees(x) - n; }

        @Override int leans(int x) { trace.add(72); return x | a; }

        @Override int tells(int x) { trace.add(73); return bends(x) + leans(n); }
    }
}
