/** The boundary sentences of the first paragraph of the Terms, and of the 512 calls that an object is used for. */
public final class EdgesTermsTest {
    private static final Checks CHECKS = new Checks("EdgesTermsTest");

    public static void main(String[] args) {
        constants();
        whatTheHostRefuses();
        lowBad();
        lowNone();
        lowState();
        notByLow();
        minusNineIsNoRefusal();
        ofSeveralTheFirstNamed();
        onlyTheTapeIsUsedUp();
        setsAreToldByBits();
        quotientsAreCutTowards0();
        fiveHundredTwelveCalls();
        dearestCalls();
        CHECKS.end();
    }

    private static Run run(String sentence) {
        return new Run(CHECKS, sentence);
    }

    private static void constants() {
        CHECKS.due("BAD (-1)", FarHeights.BAD, -1);
        CHECKS.due("FULL (-2)", FarHeights.FULL, -2);
        CHECKS.due("NONE (-3)", FarHeights.NONE, -3);
        CHECKS.due("STATE (-4)", FarHeights.STATE, -4);
        CHECKS.due("LOW", FarHeights.LOW, -10000000);
    }

    private static void whatTheHostRefuses() {
        Run run = Houses.mixed(run("-11 nothing, -12 a place outside, -13 another sort or kind, -14 a size below 0"));
        run.refuses("put(3, 0, 0)", -11).refuses("item(3, 0, 0)", -11).refuses("book(0, 3, 0, 1)", -11).refuses("taken(3, 0)", -11);
        run.refuses("put(1, 8, 0)", -12).refuses("item(1, 1, 8)", -12).refuses("book(0, 1, 8, 1)", -12);
        run.refuses("item(1, 0, 0)", -13).refuses("book(0, 0, 0, 1)", -13).refuses("taken(0, 1)", -13).refuses("taken(2, 10)", -13);
        run.refuses("sheet(1, 0, -1)", -14);
        Run by0 = run("-15 parted by 0").does("station(0)", "point(1, 1)", "sight(1, 0, 0, 0, 0)", "shelf(0, 0, 0)");
        by0.does("act(0, 2, 1)").refuses("act(0, 2, 1)", -15);
    }

    private static void lowBad() {
        Run run = Houses.mixed(run("refusals are told by LOW: BAD is -10000001"));
        run.refuses("mend(4, 0, 0)", -10000001).refuses("stationOf(4, 0)", -10000001).refuses("sightOf(6, 0)", -10000001);
        run.refuses("foot(6, 0)", -10000001).refuses("span(5, 0)", -10000001).refuses("said(5)", -10000001);
        run.refuses("row(3, 0)", -10000001).refuses("alterRow(3, 0, 0)", -10000001);
    }

    private static void lowNone() {
        Run run = Houses.mixed(run("refusals are told by LOW: NONE is -10000003"));
        run.refuses("stationOf(3, 0)", -10000003).refuses("foot(3, 0)", -10000003).refuses("span(3, 0)", -10000003);
        run.refuses("said(3)", -10000003);
    }

    private static void lowState() {
        Run run = run("refusals are told by LOW: STATE is -10000004").does("station(0)", "point(10, 0)");
        run.does("sight(3, 0, 0, 1, 0)", "sight(3, 0, 0, 9, 0)");
        run.refuses("span(0, 0)", -10000004).refuses("said(0)", -10000004);
    }

    private static void notByLow() {
        Run run = Houses.full(run("refusals of numbers that are never below 0 are not told by LOW"));
        run.refuses("station(100)", -1).refuses("leg(0, 0, 0, 1)", -1).refuses("point(0, 100)", -1).refuses("mass(8, 0)", -1);
        run.refuses("masses(3)", -1).refuses("sight(6, 0, 0, 0, 0)", -1).refuses("falls(24, true)", -1).refuses("counted(8)", -1);
        run.refuses("hangs(24)", -1).refuses("mayBe(6, 0, 0)", -1).refuses("next(8, 1)", -1).refuses("behind(6, 0)", -1);
        run.refuses("highest(8, 0)", -1).refuses("believed(8, 1)", -1).refuses("feed(0, 0)", -1).refuses("sheet(4, 0, 0)", -1);
        run.refuses("put(4, 0, 0)", -1).refuses("item(4, 0, 0)", -1).refuses("book(6, 0, 0, 0)", -1).refuses("shelf(4, 3, 0)", -1);
        run.refuses("taken(4, 0)", -1).refuses("many(9)", -1).refuses("station(0)", -2).refuses("leg(0, 1, 0, 1)", -2);
        run.refuses("point(0, 0)", -2).refuses("sight(1, 0, 0, 0, 0)", -2).refuses("feed(0, 1)", -2).refuses("trace(7)", -3);
        run.refuses("hangs(8)", -3);
    }

    private static void minusNineIsNoRefusal() {
        Run run = Houses.mixed(run("-9 is an answer")).leaves("stationOf(0, 2)", -9).leaves("hangs(0)", -9);
        run.does("mend(0, 0, -9)").leaves("stationOf(1, 0)", -9).asks("mend(0, 0, 1)", -9);
    }

    private static void ofSeveralTheFirstNamed() {
        Run full = Houses.full(run("of several the first named: BAD ahead of FULL"));
        full.refuses("station(-1)", -1).refuses("leg(0, 0, 100, 0)", -1).refuses("point(1000, 100)", -1);
        full.refuses("sight(6, 6, 8, 1000, 2400)", -1).refuses("feed(0, 9)", -1);
        Run mixed = Houses.mixed(run("of several the first named: BAD ahead of NONE"));
        mixed.refuses("stationOf(3, 5)", -10000001).refuses("foot(3, 3)", -10000001).refuses("span(3, 2)", -10000001);
        mixed.refuses("mayBe(3, 1000, 0)", -1).refuses("behind(3, 5)", -1).refuses("highest(3, 2)", -1);
        Run host = Houses.mixed(run("of several the first named: BAD, -13, -11, -12, -14"));
        host.refuses("sheet(4, 0, -1)", -1).refuses("sheet(0, 4, -1)", -1).refuses("put(4, -1, 0)", -1).refuses("put(3, -1, 0)", -11);
        host.refuses("item(0, 4, -1)", -1).refuses("item(0, 1, -1)", -13).refuses("item(3, 1, -1)", -11);
        host.refuses("book(4, 0, -1, 1)", -1).refuses("book(0, 4, -1, 1)", -1).refuses("book(0, 0, -1, 9)", -1);
        host.refuses("book(0, 0, -1, 1)", -13).refuses("book(0, 3, -1, 1)", -11).refuses("taken(4, 7)", -1).refuses("taken(3, 7)", -1);
        Run state = run("of several the first named: NONE ahead of STATE").does("station(0)", "point(10, 0)", "point(10, 0)");
        state.does("sight(3, 0, 0, 1, 0)", "sight(3, 0, 0, 9, 0)", "sight(3, 0, 0, 5, 0)", "falls(2, true)");
        state.refuses("highest(1, 0)", -3).refuses("highest(0, 0)", -4).refuses("hangs(2)", -3).refuses("hangs(0)", -4);
        state.refuses("span(1, 0)", -10000003).refuses("said(1)", -10000003);
    }

    private static void onlyTheTapeIsUsedUp() {
        Run run = Houses.mixed(run("such a call changes nothing (but that THE TAPE is used up by read())"));
        run.asks("read()", -119).asksBehind("read()", "many(7)", 0).asksBehind("read()", "many(5)", 2);
        Run used = Houses.mixed(run("a faulty read() leaves all but THE TAPE as it was")).does("read()");
        used.refusesText("bend 5 if (hour = 3", -119).refusesText("bend 5 if (hour = 3);;", -121);
    }

    private static void setsAreToldByBits() {
        Run run = Houses.full(run("Sets are told by bits"));
        run.asks("counted(0)", 1).asks("counted(7)", 128).does("falls(23, false)").asks("counted(7)", 128 + (1 << 23));
    }

    private static void quotientsAreCutTowards0() {
        Run run = run("Quotients are cut towards 0").does("station(50)", "point(45, 1)", "masses(1)").asks("stationOf(0, 4)", -1);
        run.does("masses(2)").asks("stationOf(0, 4)", 0).does("point(53, 0)", "sight(3, 0, 1, -7, 0)").asks("foot(0, 0)", -2);
        run.does("sight(3, 0, 1, -2, 0)").asks("foot(1, 0)", 0);
        Run act = run("Quotients are cut towards 0: leans").does("station(0)", "point(1, 1)", "sight(1, 0, 0, -10, 0)");
        act.does("shelf(0, 0, 0)").asks("act(0, 2, #)", 0, 9, -9).asks("act(0, 2, 19)", -1).asks("act(0, 2, -19)", 1);
    }

    private static void fiveHundredTwelveCalls() {
        FarHeights x = new FarHeights();
        x.station(0);
        x.point(10, 0);
        x.sight(3, 0, 0, 5, 0);
        for (int call = 4; call < 512; call += 4) {
            CHECKS.due("512 calls: feed", x.feed(';', 1), 1);
            CHECKS.due("512 calls: read", x.read(), -100);
            CHECKS.due("512 calls: keep", x.keep(), 1);
            CHECKS.due("512 calls: back", x.back(), 1);
        }
        CHECKS.due("the 512th call", x.span(0, 1), 6);
    }

    private static void dearestCalls() {
        FarHeights x = new FarHeights();
        for (int s = 0; s < 6; s++) {
            x.station(0);
            x.leg(Math.max(0, s - 1), s, 0, 9);
        }
        for (int p = 0; p < 8; p++) {
            x.point(999, 0);
        }
        for (int k = 0; k < 24; k++) {
            x.sight(4, 5, k % 8, 99, 0);
        }
        long above = x.highest(0, 0);
        for (int call = 46; call <= 512; call++) {
            CHECKS.due("highest, again and again", x.highest(0, 0), above);
        }
        CHECKS.holds("highest is a fraction", above > 0);
    }
}
