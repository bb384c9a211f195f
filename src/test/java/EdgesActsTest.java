/** The boundary sentences about SHELVES, ACTS and THE TRACE: part 5 of the Terms, promises 33 to 36. */
public final class EdgesActsTest {
    private static final int MIN = Run.MIN, MAX = Run.MAX;
    private static final Checks CHECKS = new Checks("EdgesActsTest");

    public static void main(String[] args) {
        shelfNumber();
        shelfWhat();
        shelfSight();
        shelfPoint();
        shelfSheet();
        shelfNothing();
        shelfRowAsItIsThen();
        shelfAsTheyAreNow();
        shelfOfWhatIsGone();
        takenNumber();
        takenAs();
        takenNothing();
        takenKinds();
        takenRows();
        actNumbers();
        actOfNoThing();
        actsWrap();
        actLeansWraps();
        actBy0();
        actAnswersAsLowAsRefusals();
        traceNumber();
        traceOfTheLatest();
        traceAtItsLongest();
        CHECKS.end();
    }

    private static Run run(String sentence) {
        return new Run(CHECKS, sentence);
    }

    private static void shelfNumber() {
        String sentence = "SHELVES 0 to 3; 33: BAD: no such SHELF";
        run(sentence).leaves("shelf(#, 3, 0)", 1, 0, 1, 2, 3).refuses("shelf(#, 3, 0)", Run.BAD, -1, 4, MIN, MAX);
        Run mixed = Houses.mixed(run(sentence)).refuses("shelf(#, 0, 0)", Run.BAD, -1, 4, MIN, MAX);
        mixed.refuses("shelf(#, 1, 0)", Run.BAD, -1, 4).refuses("shelf(#, 2, 0)", Run.BAD, -1, 4);
        mixed.asks("shelf(#, 0, 0)", 1, 0, 1, 2, 3);
    }

    private static void shelfWhat() {
        Run mixed = Houses.mixed(run("33: what 0 to 3: BAD: no such what"));
        mixed.asks("shelf(0, #, 0)", 1, 0, 1, 2, 3).refuses("shelf(0, #, 0)", Run.BAD, -1, 4, MIN, MAX);
    }

    private static void shelfSight() {
        String sentence = "33: SIGHT n (what 0): BAD: no such thing";
        run(sentence).does("station(0)", "point(0, 0)").refuses("shelf(0, 0, #)", Run.BAD, 0, -1, MIN, MAX);
        Run mixed = Houses.mixed(run(sentence)).asks("shelf(0, 0, #)", 1, 0, 5);
        mixed.refuses("shelf(0, 0, #)", Run.BAD, -1, 6, 24, MIN, MAX);
        Houses.full(run(sentence)).asks("shelf(0, 0, 23)", 1).refuses("shelf(0, 0, #)", Run.BAD, 24, -1);
    }

    private static void shelfPoint() {
        String sentence = "33: POINT n (1): BAD: no such thing";
        run(sentence).does("station(0)").refuses("shelf(0, 1, #)", Run.BAD, 0, -1, MIN, MAX);
        Run mixed = Houses.mixed(run(sentence)).asks("shelf(0, 1, #)", 1, 0, 4);
        mixed.refuses("shelf(0, 1, #)", Run.BAD, -1, 5, 8, MIN, MAX);
        Houses.full(run(sentence)).asks("shelf(0, 1, 7)", 1).refuses("shelf(0, 1, #)", Run.BAD, 8, -1);
    }

    private static void shelfSheet() {
        String sentence = "33: the row of SHEET n (2; nothing, if missing): BAD: no such thing";
        run(sentence).leaves("shelf(0, 2, #)", 1, 0, 1, 2, 3).refuses("shelf(0, 2, #)", Run.BAD, -1, 4, MIN, MAX);
        Run mixed = Houses.mixed(run(sentence)).refuses("shelf(0, 2, #)", Run.BAD, -1, 4, MIN, MAX);
        mixed.asksBehind("shelf(0, 2, 0)", "taken(0, 10)", 5).asksBehind("shelf(0, 2, 2)", "taken(0, 13)", 40);
        mixed.asksBehind("shelf(0, 2, 3)", "taken(0, 0)", Run.NOTHING).asksBehind("shelf(0, 2, 3)", "act(0, 0, 1)", 0);
    }

    private static void shelfNothing() {
        String sentence = "33: nothing (3): 1; n counts nothing then";
        Run first = run("SHELVES hold nothing (at first)").asks("taken(#, 0)", Run.NOTHING, 0, 1, 2, 3);
        first.does("station(0)", "point(1, 1)", "sight(1, 0, 0, 0, 0)", "sheet(0, 0, 1)");
        first.asks("taken(#, 0)", Run.NOTHING, 0, 1, 2, 3).asks("act(#, 0, 5)", 0, 0, 1, 2, 3);
        Run mixed = Houses.mixed(run(sentence)).asks("shelf(0, 3, #)", 1, 0, -1, 99, MIN, MAX);
        mixed.asksBehind("shelf(0, 3, 0)", "taken(0, 5)", Run.NOTHING).asksBehind("shelf(2, 3, 0)", "taken(2, 11)", Run.NOTHING);
        mixed.leaves("shelf(3, 3, #)", 1, 0, MIN, MAX);
    }

    private static void shelfRowAsItIsThen() {
        Run run = run("33: the row of SHEET n as it is then").does("sheet(1, 1, 5)", "shelf(0, 2, 1)").asks("taken(0, 11)", 5);
        run.does("sheet(1, 2, 6)").asks("taken(0, 11)", 5).asks("taken(0, 12)", Run.OTHER).does("sheet(1, -1, 0)");
        run.asks("taken(0, 11)", 5).does("shelf(1, 2, 1)").asks("taken(1, 11)", Run.NOTHING).asks("taken(0, 11)", 5);
        run.does("sheet(1, 1, 0)", "shelf(0, 2, 1)").asks("taken(0, 11)", 0).does("sheet(1, 1, 40)", "shelf(1, 2, 1)");
        run.asks("taken(0, 11)", 0).asks("taken(1, 11)", 40);
        Run late = run("33: nothing, if missing, though the SHEET comes later").does("shelf(0, 2, 1)", "sheet(1, 1, 5)");
        late.asks("taken(0, 11)", Run.NOTHING);
    }

    private static void shelfAsTheyAreNow() {
        Run run = run("SHELVES hold a POINT as it is now").does("point(0, 9)", "shelf(3, 1, 0)").asks("act(3, 0, 2)", 18);
        run.does("mass(0, 0)").asks("act(3, 0, 2)", 0).does("mass(0, 99)").asks("act(3, 0, 2)", 198);
    }

    private static void shelfOfWhatIsGone() {
        Run run = run("SHELVES: nothing, if there is no such SIGHT, POINT any more").does("station(0)", "keep()");
        run.does("point(5, 9)", "sight(1, 0, 0, 5, 0)", "shelf(0, 0, 0)", "shelf(1, 1, 0)", "act(1, 0, 1)", "back()");
        run.asks("taken(0, #)", Run.NOTHING, 0, 1, 2, 6, 10).asks("taken(1, #)", Run.NOTHING, 0, 6, 13);
        run.asks("act(#, 0, 1)", 0, 0, 1).asks("many(8)", 1).asks("trace(0)", 70);
        run.asksBehind("act(0, 0, 1)", "many(8)", 0).asksBehind("act(1, 3, 1)", "trace(0)", Run.NONE);
        run.refuses("shelf(0, 0, 0)", Run.BAD).refuses("shelf(0, 1, 0)", Run.BAD).does("point(1, 4)");
        run.asks("taken(1, 6)", 0).asks("act(1, 0, 3)", 12).asks("taken(0, 0)", Run.NOTHING);
    }

    private static void takenNumber() {
        String sentence = "34: BAD: no such SHELF";
        run(sentence).refuses("taken(#, 0)", Run.BAD, -1, 4, MIN, MAX);
        Run mixed = Houses.mixed(run(sentence)).refuses("taken(#, 0)", Run.BAD, -1, 4, MIN, MAX);
        mixed.refuses("taken(#, 11)", Run.BAD, -1, 4, MIN, MAX);
    }

    private static void takenAs() {
        String sentence = "34: kind as (0 to 6), sort as - 10 (as 10 to 13): BAD: no such as";
        run(sentence).asks("taken(0, #)", Run.NOTHING, 0, 1, 2, 3, 4, 5, 6, 10, 11, 12, 13);
        run(sentence).refuses("taken(0, #)", Run.BAD, -1, 7, 8, 9, 14, MIN, MAX);
        Run mixed = Houses.mixed(run(sentence));
        for (int shelf = 0; shelf < 4; shelf++) {
            mixed.refuses("taken(" + shelf + ", #)", Run.BAD, -1, 7, 8, 9, 14, MIN, MAX);
        }
    }

    private static void takenNothing() {
        Houses.mixed(run("34: -11: nothing is of no other kind")).refuses("taken(3, #)", Run.NOTHING, 0, 6, 10, 13);
    }

    private static void takenKinds() {
        String[] under = {"01", "02", "03", "014", "025"};
        for (int kind = 1; kind <= 5; kind++) {
            Run run = run("34: a thing of kind as, or one under it: its number; -13").does("station(0)", "point(0, 0)");
            for (int k = 0; k < 24; k++) {
                run.does("sight(" + kind + ", 0, 0, 0, 0)");
            }
            run.does("shelf(0, 0, 0)", "shelf(1, 0, 23)");
            for (int as = 0; as <= 6; as++) {
                boolean fits = under[kind - 1].indexOf('0' + as) >= 0;
                run.asks("taken(0, " + as + ")", fits ? 0 : Run.OTHER).asks("taken(1, " + as + ")", fits ? 23 : Run.OTHER);
            }
            run.asks("taken(0, #)", Run.OTHER, 10, 11, 12, 13);
        }
        Run point = Houses.full(run("34: a POINT is of kind 6, under none"));
        point.leaves("taken(1, 6)", 7).refuses("taken(1, #)", Run.OTHER, 0, 1, 2, 3, 4, 5, 10, 11, 12, 13);
    }

    private static void takenRows() {
        for (int sort = 0; sort <= 3; sort++) {
            Run run = run("34: for a row of sort as - 10: how many items; -13").does("sheet(0, " + sort + ", 0)", "shelf(0, 2, 0)");
            run.does("sheet(0, " + sort + ", 40)", "shelf(1, 2, 0)");
            for (int as = 10; as <= 13; as++) {
                run.asks("taken(0, " + as + ")", as - 10 == sort ? 0 : Run.OTHER);
                run.asks("taken(1, " + as + ")", as - 10 == sort ? 40 : Run.OTHER);
            }
            run.refuses("taken(1, #)", Run.OTHER, 0, 1, 2, 3, 4, 5, 6);
        }
    }

    /** Shelf 0 holds sight 2 of a kind, with slant 12; or, of kind 6, point 2 with mass 12. */
    private static Run thing(String sentence, int kind) {
        Run run = run(sentence).does("station(0)", "point(1, 1)", "point(2, 2)", "point(3, 12)");
        run.does("sight(1, 0, 0, 1, 0)", "sight(1, 0, 0, 1, 0)");
        if (kind == 6) {
            return run.does("shelf(0, 1, 2)");
        }
        return run.does("sight(" + kind + ", 0, 0, 12, 0)", "shelf(0, 0, 2)");
    }

    private static void actNumbers() {
        String sentence = "35: an ACT (0 to 3) of the thing on a SHELF: 0, and no TRACE then: no such SHELF, act";
        Run run = thing(sentence, 1).asks("act(0, 0, 1)", 13).asks("act(0, 1, 1)", 33).asks("act(0, 2, 30)", 3);
        run.asks("act(0, 3, 1)", 35).does("act(0, 3, 1)").asks("many(8)", 4);
        int[] others = {-1, 4, 5, MIN, MAX};
        for (int other : others) {
            run.asks("act(0, " + other + ", 1)", 0).asksBehind("act(0, " + other + ", 1)", "many(8)", 0);
            run.asksBehind("act(0, " + other + ", 1)", "trace(0)", Run.NONE);
            run.asks("act(" + other + ", 0, 1)", 0).asksBehind("act(" + other + ", 0, 1)", "many(8)", 0);
            run.asksBehind("act(" + other + ", 0, 1)", "trace(0)", Run.NONE);
        }
    }

    private static void actOfNoThing() {
        Run run = thing("35: 0, and no TRACE then: nothing, a row", 1).does("sheet(0, 0, 5)", "shelf(1, 2, 0)", "act(0, 3, 1)");
        run.asks("act(#, 0, 1)", 0, 1, 2, 3);
        for (int shelf = 1; shelf <= 3; shelf++) {
            run.asksBehind("act(" + shelf + ", 0, 1)", "many(8)", 0).asksBehind("act(" + shelf + ", 3, 1)", "trace(0)", Run.NONE);
        }
        Run without = thing("35: 0, and no TRACE then: all else is as it was", 1).does("sheet(0, 0, 5)", "shelf(1, 2, 0)");
        without.leaves("act(#, 0, 1)", 0, -1, 4, 1, 2, MIN, MAX).leaves("act(0, #, 1)", 0, -1, 4, MIN, MAX);
    }

    /** What an act of the thing with number 2 and 12 answers, all of its bodies in one row. */
    private static int acted(int kind, int act, int x) {
        int sees = switch (kind) {
            case 2 -> x + 12 - 2;
            case 4 -> (x + 12) ^ 3;
            case 5 -> 0 - (x + 12 - 2);
            case 6 -> x * 12;
            default -> x + 12;
        };
        int bends = switch (kind) {
            case 1, 4 -> sees * 2 + 7;
            case 5 -> sees * 2 + (0 - (2 + 12 - 2));
            case 6 -> sees - 2;
            default -> sees * 2;
        };
        int leans = kind == 3 ? (x + 1) / 10 * 2 : kind == 6 ? x | 12 : x / 10;
        int tells = kind == 4 ? (bends ^ 2) + 2 / 10 : kind == 6 ? bends + (2 | 12) : bends ^ 2;
        return new int[] {sees, bends, leans, tells}[act];
    }

    private static void actsWrap() {
        int[] numbers = {0, 1, -1, 9, 10, -9, -10, -11, -12, -13, 1 << 30, MAX, MAX - 1, MAX - 11, MAX - 12, MIN, MIN + 1};
        for (int kind = 1; kind <= 6; kind++) {
            Run run = thing("ACTS: with a number x (ints that wrap)", kind);
            for (int act = 0; act <= 3; act++) {
                for (int x : numbers) {
                    run.asks("act(0, " + act + ", " + x + ")", acted(kind, act, x));
                }
            }
        }
        Run written = thing("ACTS: ints that wrap, written out", 1).asks("act(0, 0, " + MAX + ")", -2147483637);
        written.asks("act(0, 1, " + MAX + ")", 29).asks("act(0, 1, 1073741811)", -2147483643).asks("act(0, 0, " + MIN + ")", -2147483636);
        thing("noon", 2).asks("act(0, 0, " + MAX + ")", -2147483639);
        thing("both", 3).asks("act(0, 2, " + MAX + ")", -429496728).asks("act(0, 2, " + MIN + ")", -429496728);
        thing("hidden", 5).asks("act(0, 0, 2147483638)", MIN).asks("act(0, 0, " + MIN + ")", 2147483638);
        thing("point", 6).asks("act(0, 0, " + MAX + ")", -12).asks("act(0, 0, " + MIN + ")", 0).asks("act(0, 2, " + MIN + ")", MIN + 12);
    }

    private static void actLeansWraps() {
        Run run = run("12 leans: x by (a - n), the rest away: the least int by -1 wraps").does("station(0)", "point(1, 1)");
        run.does("sight(1, 0, 0, 5, 0)", "sight(1, 0, 0, 0, 0)", "sight(3, 0, 0, 1, 0)", "sight(4, 0, 0, 2, 0)");
        run.does("shelf(0, 0, 0)", "shelf(1, 0, 1)", "shelf(2, 0, 2)", "shelf(3, 0, 3)");
        run.asks("act(1, 2, " + MIN + ")", MIN).asks("act(1, 2, " + MAX + ")", -MAX).asks("act(1, 2, 7)", -7);
        // both: x + 1 wraps to the least int, by -1 it stays, twice it is 0
        run.asks("act(2, 2, " + MAX + ")", 0).asks("act(2, 2, 6)", -14).asks("act(2, 2, " + MIN + ")", -2);
        run.asks("act(0, 2, #)", 0, 4, -4, 0, 1).asks("act(0, 2, 5)", 1).asks("act(0, 2, -9)", -1).asks("act(0, 2, -10)", -2);
        // far: tells with leans(n) = 3 by -1
        run.asks("act(3, 3, 0)", (((2 ^ 3) * 2 + 7) ^ 3) - 3).asks("act(3, 2, " + MIN + ")", MIN);
    }

    private static void actBy0() {
        String sentence = "12 leans: -15 if these are the same; that is all that act() answers then";
        int[][] traces = {{}, {12}, {12}, {40, 12}, {12}, {12}};
        for (int kind = 1; kind <= 5; kind++) {
            Run run = run(sentence).does("station(0)", "point(1, 1)");
            for (int k = 0; k < 24; k++) {
                run.does("sight(" + kind + ", 0, 0, " + (k == 0 || k == 23 ? k : k - 1) + ", 0)");
            }
            run.does("shelf(0, 0, 0)", "shelf(1, 0, 23)", "shelf(2, 0, 1)");
            run.asks("act(0, 2, #)", Run.BY_0, 0, 1, -1, MIN, MAX).asks("act(1, 2, #)", Run.BY_0, 0, 7);
            run.asks("act(2, 2, 4)", kind == 3 ? -10 : -4);
            run.does("act(1, 2, 5)").asks("many(8)", traces[kind].length);
            for (int i = 0; i < traces[kind].length; i++) {
                run.asks("trace(" + i + ")", traces[kind][i]);
            }
            run.asks("trace(" + traces[kind].length + ")", Run.NONE);
        }
        Run far = run("51 tells: leans(n) is parted by 0: -15").does("station(0)", "point(1, 1)", "sight(4, 0, 0, 0, 0)");
        far.does("shelf(0, 0, 0)").asks("act(0, 3, #)", Run.BY_0, 0, 1, MAX, MIN).does("act(0, 3, 9)").asks("many(8)", 7);
        far.asks("trace(0)", 51).asks("trace(6)", 12).asks("trace(7)", Run.NONE).asks("act(0, 1, 0)", 13);
        Run others = run("acts that don't lean are not parted").does("station(0)", "point(1, 1)", "sight(1, 0, 0, 0, 0)");
        others.does("shelf(0, 0, 0)", "act(0, 2, 1)").asks("act(0, 0, 5)", 5).asks("act(0, 1, 5)", 17).asks("act(0, 3, 5)", 17);
        Run changed = run("-15 leaves all but THE TRACE as it was").does("station(0)", "point(1, 1)", "sight(1, 0, 0, 0, 0)");
        changed.does("shelf(0, 0, 0)", "act(0, 2, 4)").leaves("act(0, 2, 5)", Run.BY_0);
    }

    private static void actAnswersAsLowAsRefusals() {
        Run run = thing("35: an answer may be as low as a refusal", 1).asks("act(0, 0, -13)", -1).asks("act(0, 0, -27)", -15);
        run.asks("act(0, 2, -150)", -15).asksBehind("act(0, 2, -150)", "trace(0)", 12).asks("act(0, 0, -12)", 0);
        run.asksBehind("act(0, 0, -12)", "many(8)", 1);
    }

    private static void traceNumber() {
        Run run = thing("36: THE TRACE's i-th body. NONE", 4).refuses("trace(#)", Run.NONE, 0, 1, -1, 29, 30, MIN, MAX);
        run.does("act(0, 3, 1)");
        int[] bodies = {51, 13, 20, 11, 50, 10, 12};
        for (int i = 0; i < bodies.length; i++) {
            run.leaves("trace(" + i + ")", bodies[i]);
        }
        run.leaves("many(8)", 7).refuses("trace(#)", Run.NONE, -1, 7, 8, 29, 30, 31, MIN, MAX);
    }

    private static void traceOfTheLatest() {
        Run run = thing("THE TRACE: in the latest act()", 5).does("act(0, 3, 1)").asks("many(8)", 9).does("act(0, 0, 1)");
        run.asks("many(8)", 3).asks("trace(0)", 60).asks("trace(2)", 10).refuses("trace(3)", Run.NONE).does("shelf(0, 1, 1)");
        run.asks("many(8)", 3).does("act(0, 2, 1)").asks("many(8)", 1).asks("trace(0)", 72).does("act(0, 9, 1)").asks("many(8)", 0);
        run.refuses("trace(0)", Run.NONE).does("act(0, 0, 1)").asks("trace(0)", 70).does("shelf(0, 3, 0)", "keep()", "back()");
        run.asks("trace(0)", 70).does("act(0, 0, 1)").asks("trace(0)", Run.NONE);
        Run two = thing("THE TRACE: of another thing of the same kind", 5).does("sight(5, 0, 0, 7, 0)", "shelf(1, 0, 3)");
        two.does("act(0, 1, 1)").asks("many(8)", 8).does("act(1, 0, 1)").asks("many(8)", 3).refuses("trace(3)", Run.NONE);
    }

    private static void traceAtItsLongest() {
        Run run = thing("THE TRACE: as they began (left first), at its longest: far below the 30 that are kept", 5);
        run.does("act(0, 3, " + MAX + ")").asks("many(8)", 9);
        int[] bodies = {13, 61, 11, 60, 30, 10, 60, 30, 10};
        for (int i = 0; i < bodies.length; i++) {
            run.asks("trace(" + i + ")", bodies[i]);
        }
        for (int i = 0; i < 20; i++) {
            run.does("act(0, 3, " + i + ")");
        }
        int[][] tells = {{13, 20, 11, 10}, {13, 11, 30, 10}, {13, 11, 10}, {51, 13, 20, 11, 50, 10, 12}, bodies, {73, 71, 70, 72}};
        for (int kind = 1; kind <= 6; kind++) {
            Run each = thing("THE TRACE: of kind " + kind, kind).does("act(0, 3, 1)").asks("many(8)", tells[kind - 1].length);
            for (int i = 0; i < tells[kind - 1].length; i++) {
                each.asks("trace(" + i + ")", tells[kind - 1][i]);
            }
        }
        run.asks("many(8)", 9).asks("trace(8)", 10).refuses("trace(9)", Run.NONE);
    }
}
