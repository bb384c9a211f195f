/**
 * Heights of far points, seen from stations to which a level is carried from the sea.
 * Every call tests its arguments itself and answers a refusal; none ever throws.
 */
public final class FarHeights {
    public static final int BAD = -1, FULL = -2, NONE = -3, STATE = -4, LOW = -10000000;

    private static final int NOTHING_THERE = -11, OUTSIDE = -12, OTHER_SORT = -13;
    private static final int SIZE_BELOW_0 = -14, PARTED_BY_0 = -15;
    /** Answered where a thing is right but has no such part: no LAST LEG, no other SIGHT. */
    private static final int WITHOUT = -9;
    private static final int STATION_MISSING = 22;

    private static final int MOST_STATIONS = 6, MOST_LEGS = 12, MOST_POINTS = 8, MOST_SIGHTS = 24;
    private static final int MOST_TAPE = 200, MOST_LINES = 8;
    private static final int MOST_SLANTS_OF_BOOK = 8;
    private static final int ROW_PARTS = 3;
    private static final int SHEETS = 4, MOST_ITEMS = 40, SHELVES = 4;
    private static final int MOST_BODIES = 30;

    private static final int MORNING = 1, NOON = 2, BOTH = 3, FAR = 4, HIDDEN = 5;
    private static final int SIGHT_THING = 0, POINT_THING = 6, FIRST_ROW_SORT = 10, LAST_ROW_SORT = 13;
    private static final int BYTES = 0, SHORTS = 1, LONGS = 3, MISSING = -1;
    private static final int HOLDS_SIGHT = 0, HOLDS_POINT = 1, HOLDS_ROW = 2, HOLDS_NOTHING = 3;
    private static final int NOON_OF_BOOK = 1220;

    private final View view = new View();
    private final Net net = view.net;
    private final Law law = view.law;
    private final View keptView = new View();
    private boolean kept = false;

    /** A text is read here first, so that a faulty one leaves THE LAW as it was. */
    private final Law draft = new Law();
    private final byte[] tape = new byte[MOST_TAPE];
    private int taped = 0;

    private final int[] rows = new int[MOST_STATIONS * ROW_PARTS];
    private int rowCount = 0;

    private final int[] sheetSorts = new int[SHEETS];
    private final int[] sheetSizes = new int[SHEETS];
    private final long[] sheetItems = new long[SHEETS * MOST_ITEMS];
    private final int[] shelfHolds = new int[SHELVES];
    /** The number of a SIGHT or POINT; of a row its sort. */
    private final int[] shelfNumbers = new int[SHELVES];
    private final int[] shelfSizes = new int[SHELVES];

    /** One thing of each kind, lent to whatever acts: so that act() makes no objects. */
    private final Thing[] things = new Thing[POINT_THING + 1];
    /** The thing that acted latest keeps THE TRACE; null if there is none. */
    private Thing latest = null;

    public FarHeights() {
        for (int i = 0; i < SHEETS; i++) {
            sheetSorts[i] = MISSING;
        }
        for (int i = 0; i < SHELVES; i++) {
            shelfHolds[i] = HOLDS_NOTHING;
        }
        things[MORNING] = new Morning();
        things[NOON] = new Noon();
        things[BOTH] = new Both();
        things[FAR] = new Far();
        things[HIDDEN] = new Hidden();
        things[POINT_THING] = new Peak();
    }

    // ---- stations, legs

    public int station(int place) {
        if (!within(place, 0, 99)) {
            return BAD;
        }
        if (net.stations >= MOST_STATIONS) {
            return FULL;
        }
        return net.addStation(place);
    }

    public int leg(int a, int b, int rise, int slip) {
        if (!isStation(a) || !isStation(b) || a == b || !isRise(rise) || !isSlip(slip)) {
            return BAD;
        }
        if (net.legs >= MOST_LEGS) {
            return FULL;
        }
        return net.addLeg(a, b, rise, slip);
    }

    public int mend(int leg, int what, int n) {
        if (!within(leg, 0, net.legs - 1)) {
            return LOW + BAD;
        }
        if (what == 0 && isRise(n)) {
            int was = net.rises[leg];
            net.rises[leg] = n;
            net.carry();
            return was;
        }
        if (what == 1 && isSlip(n)) {
            int was = net.slips[leg];
            net.slips[leg] = n;
            net.carry();
            return was;
        }
        return LOW + BAD;
    }

    public int stationOf(int s, int what) {
        if (!isStation(s) || !within(what, 0, 4)) {
            return LOW + BAD;
        }
        if (what == 3) {
            return net.places[s];
        }
        if (what == 4) {
            return view.lean(s);
        }
        if (!net.hasLevel(s)) {
            return LOW + NONE;
        }
        if (what == 0) {
            return net.levels[s];
        }
        return what == 1 ? net.doubts[s] : net.lastLegs[s];
    }

    public int again() {
        int best = NONE;
        int least = 0;
        for (int leg = 0; leg < net.legs; leg++) {
            int together = net.doubtsWithEasy(leg);
            if (best == NONE || together < least) {
                best = leg;
                least = together;
            }
        }
        return best;
    }

    // ---- points, sights

    public int point(int place, int mass) {
        if (!within(place, 0, 999) || !isMass(mass)) {
            return BAD;
        }
        if (view.points >= MOST_POINTS) {
            return FULL;
        }
        return view.addPoint(place, mass);
    }

    public int mass(int p, int n) {
        if (!isPoint(p) || !isMass(n)) {
            return BAD;
        }
        int was = view.masses[p];
        view.masses[p] = n;
        return was;
    }

    public int masses(int n) {
        if (!within(n, 0, 2)) {
            return BAD;
        }
        int was = view.massLaw;
        view.massLaw = n;
        return was;
    }

    public int sight(int kind, int s, int p, int slant, int when) {
        if (!isKind(kind) || !isStation(s) || !isPoint(p) || !isSlant(slant) || !isWhen(when)) {
            return BAD;
        }
        if (view.sights >= MOST_SIGHTS) {
            return FULL;
        }
        return view.addSight(kind, s, p, slant, when);
    }

    public int sightOf(int k, int what) {
        if (!isSight(k)) {
            return LOW + BAD;
        }
        switch (what) {
            case 0: return view.kinds[k];
            case 1: return view.froms[k];
            case 2: return view.targets[k];
            case 3: return view.slants[k];
            case 4: return view.toldOf(k);
            case 5: return bendOf(view.kinds[k], view.toldOf(k), view.awayOf(k));
            case 6: return slackOf(view.kinds[k], view.awayOf(k));
            case 7: return view.isFalse(k) ? 0 : 1;
            default: return LOW + BAD;
        }
    }

    public int falls(int k, boolean on) {
        if (!isSight(k)) {
            return BAD;
        }
        if (view.isFalse(k) == on) {
            return 0;
        }
        view.falseSights ^= 1 << k;
        return 1;
    }

    public int foot(int k, int what) {
        if (!isSight(k) || !within(what, 0, 2)) {
            return LOW + BAD;
        }
        if (!net.hasLevel(view.froms[k])) {
            return LOW + NONE;
        }
        int middle = view.footOf(k);
        if (what == 0) {
            return middle;
        }
        return what == 1 ? middle - view.reachOf(k) : middle + view.reachOf(k);
    }

    public int span(int p, int what) {
        if (!isPoint(p) || !within(what, 0, 1)) {
            return LOW + BAD;
        }
        int state = view.measure(p, WITHOUT);
        if (state != View.MEASURED) {
            return LOW + state;
        }
        return what == 0 ? view.lows[p] : view.highs[p];
    }

    public int counted(int p) {
        if (!isPoint(p)) {
            return BAD;
        }
        int bits = 0;
        for (int k = 0; k < view.sights; k++) {
            if (view.targets[k] == p && view.counts(k)) {
                bits |= 1 << k;
            }
        }
        return bits;
    }

    public int hangs(int k) {
        if (!isSight(k)) {
            return BAD;
        }
        if (!view.counts(k)) {
            return NONE;
        }
        int p = view.targets[k];
        int with = view.measure(p, WITHOUT);
        int widthWith = view.highs[p] - view.lows[p];
        int without = view.measure(p, k);
        if (without == NONE) {
            return WITHOUT;
        }
        if (with == STATE || without == STATE) {
            return STATE;
        }
        return view.highs[p] - view.lows[p] - widthWith;
    }

    public int mayBe(int s, int slant, int when) {
        if (!isStation(s) || !isSlant(slant) || !isWhen(when)) {
            return BAD;
        }
        if (!net.hasLevel(s)) {
            return NONE;
        }
        int bits = 0;
        for (int p = 0; p < view.points; p++) {
            if (view.mayBeSeen(s, p, slant, when)) {
                bits |= 1 << p;
            }
        }
        return bits;
    }

    public int next(int p, int kind) {
        if (!isPoint(p) || !isKind(kind)) {
            return BAD;
        }
        int best = NONE;
        int least = 0;
        for (int s = 0; s < net.stations; s++) {
            int reach = view.reach(kind, s, p);
            if (net.hasLevel(s) && (best == NONE || reach < least)) {
                best = s;
                least = reach;
            }
        }
        return best;
    }

    // ---- behind, the highest, numbers

    public int behind(int s, int q) {
        if (!isStation(s) || !isPoint(q)) {
            return BAD;
        }
        if (!net.hasLevel(s)) {
            return NONE;
        }
        view.measureAll();
        int bits = 0;
        for (int p = 0; p < view.points; p++) {
            if (view.hides(s, p, q)) {
                bits |= 1 << p;
            }
        }
        return bits;
    }

    public long highest(int p, int part) {
        if (!isPoint(p) || !within(part, 0, 1)) {
            return BAD;
        }
        boolean contrary = view.measureAll();
        if (view.states[p] == NONE) {
            return NONE;
        }
        if (contrary) {
            return STATE;
        }
        long ways = view.waysHighest(p);
        long all = view.waysInAll();
        long shared = sharedDivisor(ways, all);
        // never so: all is 1 at least, and 0 ways share all of it, which makes 0 by 1
        if (shared <= 0) {
            return STATE;
        }
        return part == 0 ? ways / shared : all / shared;
    }

    public int said(int p) {
        if (!isPoint(p)) {
            return LOW + BAD;
        }
        int state = view.measure(p, WITHOUT);
        if (state != View.MEASURED) {
            return LOW + state;
        }
        int number = (view.lows[p] + view.highs[p]) / 2;
        return number % 100 == 0 ? number + 2 : number;
    }

    public int believed(int p, int number) {
        if (!isPoint(p)) {
            return BAD;
        }
        if (view.measure(p, WITHOUT) != View.MEASURED || number % 100 == 0) {
            return 0;
        }
        return within(number, view.lows[p], view.highs[p]) ? 1 : 0;
    }

    // ---- the law

    public int feed(long eight, int n) {
        if (!within(n, 1, 8)) {
            return BAD;
        }
        if (taped + n > MOST_TAPE) {
            return FULL;
        }
        for (int i = 0; i < n; i++) {
            tape[taped + i] = (byte) (eight >>> (8 * i));
        }
        taped += n;
        return taped;
    }

    public int read() {
        int fault = draft.readFrom(tape, taped);
        taped = 0;
        if (fault != Law.NO_FAULT) {
            return -100 - fault;
        }
        law.copy(draft);
        return law.lines;
    }

    // ---- rows

    public int prove() {
        rowCount = 0;
        for (int s = 0; s < net.stations; s++) {
            if (net.hasLevel(s)) {
                int at = rowCount * ROW_PARTS;
                rows[at] = s;
                rows[at + 1] = net.levels[s];
                rows[at + 2] = net.doubts[s];
                rowCount++;
            }
        }
        return rowCount;
    }

    public int row(int i, int what) {
        return isRowPart(i, what) ? rows[i * ROW_PARTS + what] : LOW + BAD;
    }

    public int alterRow(int i, int what, int v) {
        if (!isRowPart(i, what)) {
            return LOW + BAD;
        }
        int was = rows[i * ROW_PARTS + what];
        rows[i * ROW_PARTS + what] = v;
        return was;
    }

    public int judge() {
        for (int i = 0; i < rowCount; i++) {
            if (!isRightRow(i)) {
                return i + 1;
            }
        }
        int levelled = 0;
        for (int s = 0; s < net.stations; s++) {
            if (net.hasLevel(s)) {
                levelled++;
            }
        }
        // right rows name unlike stations, so that fewer rows leave one out
        return rowCount < levelled ? STATION_MISSING : 0;
    }

    // ---- the host

    public int sheet(int sheet, int sort, int n) {
        if (!isSheet(sheet) || !within(sort, MISSING, LONGS)) {
            return BAD;
        }
        if (sort == MISSING) {
            sheetSorts[sheet] = MISSING;
            sheetSizes[sheet] = 0;
            return 1;
        }
        if (n > MOST_ITEMS) {
            return BAD;
        }
        if (n < 0) {
            return SIZE_BELOW_0;
        }
        sheetSorts[sheet] = sort;
        sheetSizes[sheet] = n;
        for (int i = 0; i < n; i++) {
            sheetItems[sheet * MOST_ITEMS + i] = 0;
        }
        return 1;
    }

    public int put(int sheet, int i, int v) {
        if (!isSheet(sheet)) {
            return BAD;
        }
        if (sheetSorts[sheet] == MISSING) {
            return NOTHING_THERE;
        }
        if (!within(i, 0, sheetSizes[sheet] - 1)) {
            return OUTSIDE;
        }
        sheetItems[sheet * MOST_ITEMS + i] = narrowed(v, sheetSorts[sheet]);
        return 1;
    }

    public int item(int sheet, int sort, int i) {
        if (!isSheet(sheet) || !within(sort, BYTES, LONGS)) {
            return BAD;
        }
        int refusal = refusalOfRow(sheet, sort);
        if (refusal != 0) {
            return refusal;
        }
        if (!within(i, 0, sheetSizes[sheet] - 1)) {
            return OUTSIDE;
        }
        return (int) sheetItems[sheet * MOST_ITEMS + i];
    }

    public int book(int s, int sheet, int i, int n) {
        if (!isStation(s) || !isSheet(sheet) || !within(n, 0, MOST_SLANTS_OF_BOOK)) {
            return BAD;
        }
        int refusal = refusalOfRow(sheet, SHORTS);
        if (refusal != 0) {
            return refusal;
        }
        int came = 0;
        for (int p = 0; p < n; p++) {
            // i is tested by itself first: i + p may wrap
            if (i < 0 || i >= sheetSizes[sheet] - p) {
                return OUTSIDE;
            }
            int slant = (int) sheetItems[sheet * MOST_ITEMS + i + p];
            if (isSlant(slant) && isPoint(p) && view.sights < MOST_SIGHTS) {
                view.addSight(NOON, s, p, slant, NOON_OF_BOOK);
                came++;
            }
        }
        return came;
    }

    public int shelf(int shelf, int what, int n) {
        if (!isShelf(shelf)) {
            return BAD;
        }
        boolean sightThere = what == HOLDS_SIGHT && isSight(n);
        boolean pointThere = what == HOLDS_POINT && isPoint(n);
        boolean sheetThere = what == HOLDS_ROW && isSheet(n);
        if (!sightThere && !pointThere && !sheetThere && what != HOLDS_NOTHING) {
            return BAD;
        }
        shelfHolds[shelf] = what;
        shelfNumbers[shelf] = n;
        if (sheetThere) {
            holdRow(shelf, n);
        }
        return 1;
    }

    public int taken(int shelf, int as) {
        boolean thing = within(as, SIGHT_THING, POINT_THING);
        if (!isShelf(shelf) || !thing && !within(as, FIRST_ROW_SORT, LAST_ROW_SORT)) {
            return BAD;
        }
        int kind = kindOn(shelf);
        if (kind == NOTHING_THERE) {
            return NOTHING_THERE;
        }
        if (!isUnder(kind, as)) {
            return OTHER_SORT;
        }
        return thing ? shelfNumbers[shelf] : shelfSizes[shelf];
    }

    public int act(int shelf, int act, int x) {
        latest = null;
        if (!isShelf(shelf) || !within(act, 0, 3)) {
            return 0;
        }
        Thing thing = thingOn(shelf);
        if (thing == null) {
            return 0;
        }
        latest = thing;
        int answer;
        switch (act) {
            case 0: answer = thing.sees(x); break;
            case 1: answer = thing.bends(x); break;
            case 2: answer = thing.leans(x); break;
            default: answer = thing.tells(x); break;
        }
        return thing.parted ? PARTED_BY_0 : answer;
    }

    public int trace(int i) {
        return latest == null ? NONE : latest.body(i);
    }

    public int many(int what) {
        switch (what) {
            case 0: return net.stations;
            case 1: return net.legs;
            case 2: return view.points;
            case 3: return view.sights;
            case 4: return view.countedSights();
            case 5: return law.lines;
            case 6: return rowCount;
            case 7: return taped;
            case 8: return latest == null ? 0 : latest.ran;
            default: return BAD;
        }
    }

    // ---- kept

    public int keep() {
        keptView.copy(view);
        kept = true;
        return 1;
    }

    public int back() {
        if (!kept) {
            return NONE;
        }
        view.copy(keptView);
        return 1;
    }

    // ---- what arguments may be

    private static boolean within(int n, int least, int most) {
        return n >= least && n <= most;
    }

    private static boolean isRise(int n) {
        return within(n, -99, 99);
    }

    private static boolean isSlip(int n) {
        return within(n, 1, 9);
    }

    private static boolean isMass(int n) {
        return within(n, 0, 99);
    }

    private static boolean isKind(int n) {
        return within(n, MORNING, HIDDEN);
    }

    private static boolean isSlant(int n) {
        return within(n, -99, 999);
    }

    private static boolean isWhen(int when) {
        return when >= 0 && when / 100 <= 23 && when % 100 <= 40;
    }

    private static boolean isSheet(int n) {
        return within(n, 0, SHEETS - 1);
    }

    private static boolean isShelf(int n) {
        return within(n, 0, SHELVES - 1);
    }

    private boolean isStation(int s) {
        return within(s, 0, net.stations - 1);
    }

    private boolean isPoint(int p) {
        return within(p, 0, view.points - 1);
    }

    private boolean isSight(int k) {
        return within(k, 0, view.sights - 1);
    }

    private boolean isRowPart(int i, int what) {
        return within(i, 0, rowCount - 1) && within(what, 0, ROW_PARTS - 1);
    }

    // ---- parts of the calls

    private static int slackOf(int kind, int away) {
        switch (kind) {
            case MORNING: return 3;
            case NOON: return 5;
            case BOTH: return 1;
            case FAR: return 3 + away / 50;
            default: return 2 * 5;
        }
    }

    private static int bendOf(int kind, int told, int away) {
        switch (kind) {
            case MORNING: return told * 2;
            case NOON: return told / 2;
            case BOTH: return 0;
            case FAR: return told * 2 + away / 10;
            default: return told / 2 + 1;
        }
    }

    private static long sharedDivisor(long a, long b) {
        long greater = a;
        long lesser = b;
        // two steps at least halve the greater one, so 200 are more than a long can need
        for (int i = 0; i < 200 && lesser != 0; i++) {
            long rest = greater % lesser;
            greater = lesser;
            lesser = rest;
        }
        return greater;
    }

    private boolean isRightRow(int i) {
        int at = i * ROW_PARTS;
        int s = rows[at];
        if (!net.hasLevel(s) || i > 0 && s <= rows[at - ROW_PARTS]) {
            return false;
        }
        return rows[at + 1] == net.levels[s] && rows[at + 2] == net.doubts[s];
    }

    private static long narrowed(int v, int sort) {
        switch (sort) {
            case BYTES: return (byte) v;
            case SHORTS: return (short) v;
            default: return v;
        }
    }

    /** Why a SHEET can't be taken for a row of a sort: 0 if it can. */
    private int refusalOfRow(int sheet, int sort) {
        if (sheetSorts[sheet] == MISSING) {
            return NOTHING_THERE;
        }
        return sheetSorts[sheet] == sort ? 0 : OTHER_SORT;
    }

    /** A row's length and sort never change, so that these stand for the row itself. */
    private void holdRow(int shelf, int sheet) {
        if (sheetSorts[sheet] == MISSING) {
            shelfHolds[shelf] = HOLDS_NOTHING;
            return;
        }
        shelfNumbers[shelf] = sheetSorts[sheet];
        shelfSizes[shelf] = sheetSizes[sheet];
    }

    /** What a SHELF holds, in the numbers of taken(): a kind, 10 and a row's sort, or NOTHING_THERE. */
    private int kindOn(int shelf) {
        int n = shelfNumbers[shelf];
        switch (shelfHolds[shelf]) {
            case HOLDS_SIGHT: return isSight(n) ? view.kinds[n] : NOTHING_THERE;
            case HOLDS_POINT: return isPoint(n) ? POINT_THING : NOTHING_THERE;
            case HOLDS_ROW: return FIRST_ROW_SORT + n;
            default: return NOTHING_THERE;
        }
    }

    private static boolean isUnder(int kind, int as) {
        switch (as) {
            case SIGHT_THING: return isKind(kind);
            case MORNING: return kind == MORNING || kind == FAR;
            case NOON: return kind == NOON || kind == HIDDEN;
            default: return kind == as;
        }
    }

    /** The thing on a SHELF, ready to act; null for nothing and for a row. */
    private Thing thingOn(int shelf) {
        int kind = kindOn(shelf);
        if (!within(kind, MORNING, POINT_THING)) {
            return null;
        }
        Thing thing = things[kind];
        if (thing != null) {
            int n = shelfNumbers[shelf];
            thing.begin(n, kind == POINT_THING ? view.masses[n] : view.slants[n]);
        }
        return thing;
    }

    /** STATIONS and LEGS, and the LEVEL that is carried over them. */
    private static final class Net {
        private static final int NO_WAY = -1;

        int stations = 0;
        final int[] places = new int[MOST_STATIONS];
        int legs = 0;
        final int[] firsts = new int[MOST_LEGS];
        final int[] seconds = new int[MOST_LEGS];
        final int[] rises = new int[MOST_LEGS];
        final int[] slips = new int[MOST_LEGS];
        final int[] doubts = new int[MOST_STATIONS];
        final int[] lastLegs = new int[MOST_STATIONS];
        final int[] levels = new int[MOST_STATIONS];
        private final int[] tried = new int[MOST_STATIONS];

        boolean hasLevel(int s) {
            return s >= 0 && s < stations && doubts[s] != NO_WAY;
        }

        int addStation(int place) {
            places[stations] = place;
            stations++;
            carry();
            return stations - 1;
        }

        int addLeg(int a, int b, int rise, int slip) {
            firsts[legs] = a;
            seconds[legs] = b;
            rises[legs] = rise;
            slips[legs] = slip;
            legs++;
            carry();
            return legs - 1;
        }

        /** Carries the LEVEL from the sea again, after any change. */
        void carry() {
            spread(doubts, WITHOUT);
            for (int s = 0; s < stations; s++) {
                lastLegs[s] = findLastLeg(s);
            }
            for (int s = 0; s < stations; s++) {
                levels[s] = carriedLevel(s);
            }
        }

        /** All DOUBTS together, if the LEG had SLIP 1. */
        int doubtsWithEasy(int leg) {
            spread(tried, leg);
            int together = 0;
            for (int s = 0; s < stations; s++) {
                if (tried[s] != NO_WAY) {
                    together += tried[s];
                }
            }
            return together;
        }

        private void spread(int[] into, int easyLeg) {
            for (int s = 0; s < stations; s++) {
                into[s] = s == 0 ? 0 : NO_WAY;
            }
            for (int round = 1; round < stations; round++) {
                for (int leg = 0; leg < legs; leg++) {
                    int slip = leg == easyLeg ? 1 : slips[leg];
                    lessen(into, firsts[leg], seconds[leg], slip);
                    lessen(into, seconds[leg], firsts[leg], slip);
                }
            }
        }

        private static void lessen(int[] into, int from, int to, int slip) {
            if (into[from] == NO_WAY) {
                return;
            }
            int doubt = into[from] + slip;
            if (into[to] == NO_WAY || doubt < into[to]) {
                into[to] = doubt;
            }
        }

        private int findLastLeg(int s) {
            if (s == 0 || doubts[s] == NO_WAY) {
                return WITHOUT;
            }
            for (int leg = 0; leg < legs; leg++) {
                boolean touches = firsts[leg] == s || seconds[leg] == s;
                int from = otherEnd(leg, s);
                if (touches && doubts[from] != NO_WAY && doubts[from] + slips[leg] == doubts[s]) {
                    return leg;
                }
            }
            return WITHOUT;
        }

        private int otherEnd(int leg, int s) {
            return firsts[leg] == s ? seconds[leg] : firsts[leg];
        }

        private int carriedLevel(int s) {
            int level = 0;
            int at = s;
            for (int step = 0; step < stations && lastLegs[at] != WITHOUT; step++) {
                int leg = lastLegs[at];
                level += seconds[leg] == at ? rises[leg] : -rises[leg];
                at = otherEnd(leg, at);
            }
            return level;
        }

        void copy(Net other) {
            stations = other.stations;
            System.arraycopy(other.places, 0, places, 0, MOST_STATIONS);
            legs = other.legs;
            System.arraycopy(other.firsts, 0, firsts, 0, MOST_LEGS);
            System.arraycopy(other.seconds, 0, seconds, 0, MOST_LEGS);
            System.arraycopy(other.rises, 0, rises, 0, MOST_LEGS);
            System.arraycopy(other.slips, 0, slips, 0, MOST_LEGS);
            carry();
        }
    }

    /** All that keep() keeps: POINTS and SIGHTS, seen over a Net through the bending of a Law. */
    private static final class View {
        /** The answer of measure() for a SPAN that is not CONTRARY; others are NONE and STATE. */
        static final int MEASURED = 0;

        final Net net = new Net();
        final Law law = new Law();
        int points = 0;
        final int[] places = new int[MOST_POINTS];
        final int[] masses = new int[MOST_POINTS];
        int massLaw = 0;
        int sights = 0;
        final int[] kinds = new int[MOST_SIGHTS];
        final int[] froms = new int[MOST_SIGHTS];
        final int[] targets = new int[MOST_SIGHTS];
        final int[] slants = new int[MOST_SIGHTS];
        final int[] whens = new int[MOST_SIGHTS];
        int falseSights = 0;
        /** SPANS as measure() found them latest; they are not kept. */
        final int[] lows = new int[MOST_POINTS];
        final int[] highs = new int[MOST_POINTS];
        final int[] states = new int[MOST_POINTS];

        int addPoint(int place, int mass) {
            places[points] = place;
            masses[points] = mass;
            points++;
            return points - 1;
        }

        int addSight(int kind, int s, int p, int slant, int when) {
            kinds[sights] = kind;
            froms[sights] = s;
            targets[sights] = p;
            slants[sights] = slant;
            whens[sights] = when;
            falseSights &= ~(1 << sights);
            sights++;
            return sights - 1;
        }

        int away(int s, int p) {
            return Math.abs(net.places[s] - places[p]);
        }

        int awayOf(int k) {
            return away(froms[k], targets[k]);
        }

        int lean(int s) {
            int sum = 0;
            for (int p = 0; p < points; p++) {
                int away = away(s, p);
                int pull = masses[p] * 100 / (away * away + 1);
                sum += places[p] < net.places[s] ? -pull : pull;
            }
            // solid 4, rooted 2, hollow 1
            return sum * (4 >> massLaw) / 4;
        }

        int toldOf(int k) {
            return law.told(kinds[k], awayOf(k), whens[k]);
        }

        int footFrom(int kind, int s, int p, int slant, int when) {
            int away = away(s, p);
            int bend = bendOf(kind, law.told(kind, away, when), away);
            int raised = slant - bend - lean(s);
            return net.levels[s] + raised * away / 10 + away * away / 200;
        }

        /** How far a SIGHT REACHES to either side of its FOOT. */
        int reach(int kind, int s, int p) {
            return slackOf(kind, away(s, p)) + net.doubts[s];
        }

        int footOf(int k) {
            return footFrom(kinds[k], froms[k], targets[k], slants[k], whens[k]);
        }

        int reachOf(int k) {
            return reach(kinds[k], froms[k], targets[k]);
        }

        boolean isFalse(int k) {
            return (falseSights >> k & 1) == 1;
        }

        boolean counts(int k) {
            return !isFalse(k) && net.hasLevel(froms[k]);
        }

        int countedSights() {
            int counted = 0;
            for (int k = 0; k < sights; k++) {
                if (counts(k)) {
                    counted++;
                }
            }
            return counted;
        }

        /** Finds the SPAN of a POINT, leaving one SIGHT out (WITHOUT: none): MEASURED, NONE or STATE. */
        int measure(int p, int leftOut) {
            int state = NONE;
            for (int k = 0; k < sights; k++) {
                if (targets[k] != p || k == leftOut || !counts(k)) {
                    continue;
                }
                int foot = footOf(k);
                int reach = reachOf(k);
                lows[p] = state == NONE ? foot - reach : Math.max(lows[p], foot - reach);
                highs[p] = state == NONE ? foot + reach : Math.min(highs[p], foot + reach);
                state = MEASURED;
            }
            if (state == MEASURED && lows[p] > highs[p]) {
                state = STATE;
            }
            states[p] = state;
            return state;
        }

        /** Finds all SPANS: whether one is CONTRARY. */
        boolean measureAll() {
            boolean contrary = false;
            for (int p = 0; p < points; p++) {
                if (measure(p, WITHOUT) == STATE) {
                    contrary = true;
                }
            }
            return contrary;
        }

        boolean mayBeSeen(int s, int p, int slant, int when) {
            if (measure(p, WITHOUT) != MEASURED) {
                return false;
            }
            int foot = footFrom(NOON, s, p, slant, when);
            int reach = reach(NOON, s, p);
            return foot - reach <= highs[p] && foot + reach >= lows[p];
        }

        /** Whether q is BEHIND p from s, by the SPANS that measureAll() found. */
        boolean hides(int s, int p, int q) {
            if (states[p] != MEASURED || states[q] != MEASURED) {
                return false;
            }
            if (places[p] <= net.places[s] || places[p] >= places[q]) {
                return false;
            }
            long least = lows[p] - net.levels[s];
            long most = highs[q] - net.levels[s];
            // in longs: great masses lift a height so far that the products pass an int
            return least * away(s, q) > most * away(s, p);
        }

        /** In how many ways p is the highest, by the SPANS that measureAll() found. */
        long waysHighest(int p) {
            long ways = 0;
            for (int foot = lows[p]; foot <= highs[p]; foot++) {
                long alike = 1;
                for (int q = 0; q < points; q++) {
                    if (q != p && states[q] == MEASURED) {
                        // of like ones the least number is the highest
                        alike *= feetUpTo(q, q < p ? foot - 1 : foot);
                    }
                }
                ways += alike;
            }
            return ways;
        }

        /** A foot for each POINT: at most 135 feet in each of 8 SPANS, so that a long has room. */
        long waysInAll() {
            long ways = 1;
            for (int q = 0; q < points; q++) {
                if (states[q] == MEASURED) {
                    ways *= highs[q] - lows[q] + 1;
                }
            }
            return ways;
        }

        private int feetUpTo(int q, int foot) {
            int feet = Math.min(foot, highs[q]) - lows[q] + 1;
            return Math.max(feet, 0);
        }

        void copy(View other) {
            net.copy(other.net);
            law.copy(other.law);
            points = other.points;
            System.arraycopy(other.places, 0, places, 0, MOST_POINTS);
            System.arraycopy(other.masses, 0, masses, 0, MOST_POINTS);
            massLaw = other.massLaw;
            sights = other.sights;
            System.arraycopy(other.kinds, 0, kinds, 0, MOST_SIGHTS);
            System.arraycopy(other.froms, 0, froms, 0, MOST_SIGHTS);
            System.arraycopy(other.targets, 0, targets, 0, MOST_SIGHTS);
            System.arraycopy(other.slants, 0, slants, 0, MOST_SIGHTS);
            System.arraycopy(other.whens, 0, whens, 0, MOST_SIGHTS);
            falseSights = other.falseSights;
        }
    }

    /** THE LAW: LINES with their conditions as steps in the order in which they are worked out. */
    private static final class Law {
        static final int NO_FAULT = -1;

        private static final int MOST_OPEN = 3, MOST_DIGITS = 3, MOST_LETTERS = 4, MOST_BEND = 99;
        /** More than a tape has room for: a comparison with its "or" is 5 bytes and 2 steps, a "not" 3 and 1. */
        private static final int MOST_STEPS = 100;
        /**
         * A token is its bytes in one int: a word of at most four letters, or any one other byte.
         * Tokens of more bytes, and those with a value of their own, are below 0.
         */
        private static final int END = -1, NUMBER = -2, LONG_NUMBER = -3, LONG_WORD = -4;
        private static final int BEND = 'b' << 24 | 'e' << 16 | 'n' << 8 | 'd';
        private static final int IF = 'i' << 8 | 'f';
        private static final int OR = 'o' << 8 | 'r';
        private static final int AND = 'a' << 16 | 'n' << 8 | 'd';
        private static final int NOT = 'n' << 16 | 'o' << 8 | 't';
        private static final int HEAT = 'h' << 24 | 'e' << 16 | 'a' << 8 | 't';
        private static final int HOUR = 'h' << 24 | 'o' << 16 | 'u' << 8 | 'r';
        private static final int AWAY = 'a' << 24 | 'w' << 16 | 'a' << 8 | 'y';
        private static final int KIND = 'k' << 24 | 'i' << 16 | 'n' << 8 | 'd';

        int lines = 0;
        private final int[] bends = new int[MOST_LINES];
        /** Where the steps of each LINE end. */
        private final int[] ends = new int[MOST_LINES];
        private int steps = 0;
        /** A step is a sign with its two values, or NOT, AND, OR over what went ahead. */
        private final int[] signs = new int[MOST_STEPS];
        private final int[] lefts = new int[MOST_STEPS];
        private final int[] rights = new int[MOST_STEPS];

        private byte[] text = null;
        private int size = 0;
        private int start = 0;
        private int end = 0;
        private int token = END;
        /** Of a NUMBER; a word is its own value, so that a name stands for what is asked. */
        private int value = 0;
        private int fault = NO_FAULT;

        int told(int kind, int away, int when) {
            for (int line = lines - 1; line >= 0; line--) {
                if (holds(line, kind, away, when)) {
                    return bends[line];
                }
            }
            return 0;
        }

        /** Works the steps of a LINE out on a stack of bits: 3 open brackets keep it below 10. */
        private boolean holds(int line, int kind, int away, int when) {
            int stack = 1;
            for (int i = line == 0 ? 0 : ends[line - 1]; i < ends[line]; i++) {
                int top = stack & 1;
                switch (signs[i]) {
                    case NOT: stack ^= 1; break;
                    case AND: stack = stack >> 1 & (top | ~1); break;
                    case OR: stack = stack >> 1 | top; break;
                    default:
                        int left = asked(lefts[i], kind, away, when);
                        int right = asked(rights[i], kind, away, when);
                        stack = stack << 1 | (agree(left, signs[i], right) ? 1 : 0);
                        break;
                }
            }
            return (stack & 1) == 1;
        }

        private static int asked(int numberOrName, int kind, int away, int when) {
            switch (numberOrName) {
                case HEAT: return when % 100;
                case HOUR: return when / 100;
                case AWAY: return away;
                case KIND: return kind;
                default: return numberOrName;
            }
        }

        private static boolean agree(int left, int sign, int right) {
            switch (sign) {
                case '<': return left < right;
                case '>': return left > right;
                default: return left == right;
            }
        }

        /** Becomes the law of a text: NO_FAULT, or the place of its FAULT (then this law is nothing). */
        int readFrom(byte[] tape, int count) {
            if (tape == null || count > tape.length) {
                return 0;
            }
            text = tape;
            size = count;
            end = 0;
            lines = 0;
            steps = 0;
            fault = NO_FAULT;
            step();
            for (int i = 0; i <= MOST_LINES && token != END && fault == NO_FAULT; i++) {
                readLine();
            }
            return fault;
        }

        private void readLine() {
            if (token != BEND || lines >= MOST_LINES) {
                fail();
                return;
            }
            step();
            if (token != NUMBER || value > MOST_BEND) {
                fail();
                return;
            }
            int bend = value;
            step();
            if (token == IF) {
                step();
                readCond(0);
            }
            if (fault != NO_FAULT) {
                return;
            }
            if (token != ';') {
                fail();
                return;
            }
            step();
            bends[lines] = bend;
            ends[lines] = steps;
            lines++;
        }

        private void readCond(int open) {
            readAll(open);
            for (int i = 0; i < MOST_TAPE && token == OR && fault == NO_FAULT; i++) {
                step();
                readAll(open);
                note(OR, 0, 0);
            }
        }

        private void readAll(int open) {
            readOne(open);
            for (int i = 0; i < MOST_TAPE && token == AND && fault == NO_FAULT; i++) {
                step();
                readOne(open);
                note(AND, 0, 0);
            }
        }

        private void readOne(int open) {
            boolean turned = false;
            for (int i = 0; i < MOST_TAPE && token == NOT; i++) {
                step();
                turned = !turned;
            }
            if (token == '(') {
                readOpened(open + 1);
            } else {
                readComparison();
            }
            if (turned) {
                note(NOT, 0, 0);
            }
        }

        private void readOpened(int open) {
            if (open > MOST_OPEN) {
                fail();
                return;
            }
            step();
            readCond(open);
            if (fault != NO_FAULT) {
                return;
            }
            if (token != ')') {
                fail();
                return;
            }
            step();
        }

        private void readComparison() {
            int left = value;
            if (!isValue()) {
                fail();
                return;
            }
            step();
            int sign = token;
            if (sign != '<' && sign != '=' && sign != '>') {
                fail();
                return;
            }
            step();
            int right = value;
            if (!isValue()) {
                fail();
                return;
            }
            step();
            note(sign, left, right);
        }

        private void fail() {
            if (fault == NO_FAULT) {
                fault = start;
            }
        }

        private void note(int sign, int left, int right) {
            if (steps < MOST_STEPS) {
                signs[steps] = sign;
                lefts[steps] = left;
                rights[steps] = right;
                steps++;
            }
        }

        private boolean isValue() {
            return token == NUMBER || token == HEAT || token == HOUR || token == AWAY || token == KIND;
        }

        /** Goes on to the next token. */
        private void step() {
            start = end;
            while (start < size && text[start] == ' ') {
                start++;
            }
            end = start;
            int bytes = 0;
            int number = 0;
            while (end < size && text[end] >= 'a' && text[end] <= 'z') {
                bytes = bytes << 8 | text[end];
                end++;
            }
            boolean word = end > start;
            while (!word && end < size && text[end] >= '0' && text[end] <= '9') {
                number = number * 10 + text[end] - '0';
                end++;
            }
            int length = end - start;
            if (word) {
                token = length > MOST_LETTERS ? LONG_WORD : bytes;
                value = token;
            } else if (length > 0) {
                token = length > MOST_DIGITS ? LONG_NUMBER : NUMBER;
                value = number;
            } else if (start < size) {
                token = text[start] & 255;
                end++;
            } else {
                token = END;
            }
        }

        void copy(Law other) {
            lines = other.lines;
            System.arraycopy(other.bends, 0, bends, 0, MOST_LINES);
            System.arraycopy(other.ends, 0, ends, 0, MOST_LINES);
            steps = other.steps;
            System.arraycopy(other.signs, 0, signs, 0, MOST_STEPS);
            System.arraycopy(other.lefts, 0, lefts, 0, MOST_STEPS);
            System.arraycopy(other.rights, 0, rights, 0, MOST_STEPS);
        }
    }

    /** What acts: its number n, its SLANT or MASS a, and THE TRACE of the bodies that ran. */
    private abstract static class Thing {
        int n = 0;
        int a = 0;
        int ran = 0;
        /** Set where a quotient by 0 was asked for: no body begins after that. */
        boolean parted = false;
        /** Each body puts its own number down: a method for it would take act() one call deeper than may be. */
        final int[] bodies = new int[MOST_BODIES];

        abstract int sees(int x);

        abstract int bends(int x);

        abstract int leans(int x);

        abstract int tells(int x);

        void begin(int number, int measure) {
            n = number;
            a = measure;
            ran = 0;
            parted = false;
        }

        int body(int i) {
            return i >= 0 && i < ran ? bodies[i] : NONE;
        }
    }

    private abstract static class Sight extends Thing {
        int sees(int x) {
            if (ran < MOST_BODIES) { bodies[ran++] = 10; }
            return x + a;
        }

        int bends(int x) {
            if (ran < MOST_BODIES) { bodies[ran++] = 11; }
            return sees(x) * 2;
        }

        int leans(int x) {
            if (ran < MOST_BODIES) { bodies[ran++] = 12; }
            int by = a - n;
            if (by == 0) {
                parted = true;
                return 0;
            }
            return x / by;
        }

        int tells(int x) {
            if (ran < MOST_BODIES) { bodies[ran++] = 13; }
            return bends(x) ^ n;
        }
    }

    private static class Morning extends Sight {
        int bends(int x) {
            if (ran < MOST_BODIES) { bodies[ran++] = 20; }
            return super.bends(x) + 7;
        }
    }

    private static class Noon extends Sight {
        int sees(int x) {
            if (ran < MOST_BODIES) { bodies[ran++] = 30; }
            return super.sees(x) - n;
        }
    }

    private static final class Both extends Sight {
        int leans(int x) {
            if (ran < MOST_BODIES) { bodies[ran++] = 40; }
            return super.leans(x + 1) * 2;
        }
    }

    private static final class Far extends Morning {
        int sees(int x) {
            if (ran < MOST_BODIES) { bodies[ran++] = 50; }
            return super.sees(x) ^ 3;
        }

        int tells(int x) {
            if (ran < MOST_BODIES) { bodies[ran++] = 51; }
            return super.tells(x) + leans(n);
        }
    }

    private static final class Hidden extends Noon {
        int sees(int x) {
            if (ran < MOST_BODIES) { bodies[ran++] = 60; }
            return 0 - super.sees(x);
        }

        int bends(int x) {
            if (ran < MOST_BODIES) { bodies[ran++] = 61; }
            return super.bends(x) + sees(n);
        }
    }

    private static final class Peak extends Thing {
        int sees(int x) {
            if (ran < MOST_BODIES) { bodies[ran++] = 70; }
            return x * a;
        }

        int bends(int x) {
            if (ran < MOST_BODIES) { bodies[ran++] = 71; }
            return sees(x) - n;
        }

        int leans(int x) {
            if (ran < MOST_BODIES) { bodies[ran++] = 72; }
            return x | a;
        }

        int tells(int x) {
            if (ran < MOST_BODIES) { bodies[ran++] = 73; }
            return bends(x) + leans(n);
        }
    }
}
