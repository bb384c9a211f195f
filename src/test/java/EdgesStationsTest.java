/** The boundary sentences of part 1 of the Terms and of promises 1 to 6, each with a test of its own. */
public final class EdgesStationsTest {
    private static final int MIN = Run.MIN, MAX = Run.MAX;
    private static final Checks CHECKS = new Checks("EdgesStationsTest");

    public static void main(String[] args) {
        newObject();
        newObjectRefuses();
        stationPlace();
        stationsAtMost();
        stationBadAheadOfFull();
        legStations();
        legOfOneStation();
        legRise();
        legSlip();
        legsAtMost();
        legBadAheadOfFull();
        theSea();
        withoutAWay();
        doubtIsTheLeast();
        greatestLevelsAndDoubts();
        lastLegIsTheLeast();
        goneFromTheSecond();
        mendLeg();
        mendWhat();
        mendRise();
        mendSlip();
        mendAnswersBelow0();
        stationOfStation();
        stationOfWhat();
        stationOfNone();
        lastLegOfTheSea();
        againNone();
        againLeastOfSeveral();
        againOfStationsThatHaveDoubts();
        againAlone();
        againLast();
        CHECKS.end();
    }

    private static Run run(String sentence) {
        return new Run(CHECKS, sentence);
    }

    private static Run stations(String sentence, int n) {
        Run run = run(sentence);
        for (int s = 0; s < n; s++) {
            run.does("station(" + 10 * s + ")");
        }
        return run;
    }

    private static void newObject() {
        Run run = run("1: no stations, no points, no law; masses are solid");
        run.asks("many(#)", 0, 0, 1, 2, 3, 4, 5, 6, 7, 8);
        run.asks("masses(#)", 0, 0, 1, 2);
        run.asks("station(99)", 0).asks("point(999, 99)", 0).asks("judge()", 0).asks("prove()", 0).asks("read()", 0);
        run.asks("keep()", 1).asks("feed(32, 1)", 1).asks("act(0, 0, 0)", 0).asks("shelf(0, 2, 0)", 1);
        run.does("station(0)", "point(1, 1)", "sight(1, 0, 0, 0, 0)").asks("sightOf(0, 4)", 0);
        run.asks("stationOf(0, 4)", 50);
    }

    private static void newObjectRefuses() {
        Run run = run("1: a new object has nothing to ask about");
        run.refuses("leg(0, 1, 0, 1)", Run.BAD).refuses("mend(0, #, 1)", Run.LOW_BAD, 0, 1);
        run.refuses("stationOf(0, #)", Run.LOW_BAD, 0, 1, 2, 3, 4).refuses("again()", Run.NONE);
        run.refuses("mass(0, 0)", Run.BAD).refuses("sight(1, 0, 0, 0, 0)", Run.BAD);
        run.refuses("sightOf(0, #)", Run.LOW_BAD, 0, 1, 2, 3, 4, 5, 6, 7);
        run.refuses("falls(0, true)", Run.BAD).refuses("falls(0, false)", Run.BAD);
        run.refuses("foot(0, #)", Run.LOW_BAD, 0, 1, 2).refuses("span(0, #)", Run.LOW_BAD, 0, 1);
        run.refuses("counted(0)", Run.BAD).refuses("hangs(0)", Run.BAD).refuses("mayBe(0, 0, 0)", Run.BAD);
        run.refuses("next(0, #)", Run.BAD, 1, 2, 3, 4, 5).refuses("behind(0, 0)", Run.BAD);
        run.refuses("highest(0, #)", Run.BAD, 0, 1).refuses("said(0)", Run.LOW_BAD).refuses("believed(0, 1)", Run.BAD);
        run.refuses("row(0, #)", Run.LOW_BAD, 0, 1, 2).refuses("alterRow(0, #, 0)", Run.LOW_BAD, 0, 1, 2);
        run.refuses("put(#, 0, 0)", Run.NOTHING, 0, 1, 2, 3).refuses("item(#, 0, 0)", Run.NOTHING, 0, 1, 2, 3);
        run.refuses("book(0, 0, 0, 0)", Run.BAD).refuses("shelf(0, #, 0)", Run.BAD, 0, 1);
        run.refuses("taken(#, 0)", Run.NOTHING, 0, 1, 2, 3).refuses("taken(#, 13)", Run.NOTHING, 0, 1, 2, 3);
        run.leaves("act(#, 0, 1)", 0, 0, 1, 2, 3).refuses("trace(0)", Run.NONE).refuses("back()", Run.NONE);
    }

    private static void stationPlace() {
        String sentence = "STATIONS: a PLACE (0 to 99); 2: BAD";
        Run run = run(sentence);
        run.asks("station(#)", 0, 0, 1, 50, 98, 99);
        run.refuses("station(#)", Run.BAD, -1, 100, -99, 1000, MIN, MAX);
        run.asksBehind("station(0)", "stationOf(0, 3)", 0).asksBehind("station(99)", "stationOf(0, 3)", 99);
        Houses.mixed(run(sentence)).asks("station(#)", 4, 0, 99, 10).refuses("station(#)", Run.BAD, -1, 100, MIN, MAX);
    }

    private static void stationsAtMost() {
        String sentence = "STATIONS, 6 at most, numbered as they come; 2: FULL";
        Run run = run(sentence);
        for (int s = 0; s < 6; s++) {
            run.then("station(" + 7 * s + ")", s).asks("many(0)", s + 1);
        }
        run.refuses("station(#)", Run.FULL, 0, 35, 99).asks("stationOf(5, 3)", 35);
        Houses.full(run(sentence)).refuses("station(#)", Run.FULL, 0, 99);
    }

    private static void stationBadAheadOfFull() {
        stations("2: BAD; FULL", 6).refuses("station(#)", Run.BAD, -1, 100, MIN, MAX);
    }

    private static void legStations() {
        String sentence = "3: BAD: no such STATIONS";
        run(sentence).refuses("leg(0, 1, 0, 1)", Run.BAD);
        stations(sentence, 1).refuses("leg(0, #, 0, 1)", Run.BAD, 1, -1).refuses("leg(#, 0, 0, 1)", Run.BAD, 1, -1);
        Run two = stations(sentence, 2);
        two.asks("leg(0, 1, 0, 1)", 0).asks("leg(1, 0, 0, 1)", 0);
        two.refuses("leg(#, 1, 0, 1)", Run.BAD, -1, 2, 6, MIN, MAX);
        two.refuses("leg(0, #, 0, 1)", Run.BAD, -1, 2, 6, MIN, MAX);
        Run six = stations(sentence, 6);
        six.asks("leg(#, 0, 0, 1)", 0, 1, 2, 3, 4, 5).asks("leg(0, #, 0, 1)", 0, 1, 2, 3, 4, 5);
        six.refuses("leg(#, 0, 0, 1)", Run.BAD, 6, -1).refuses("leg(0, #, 0, 1)", Run.BAD, 6, -1);
        Houses.mixed(run(sentence)).refuses("leg(#, 0, 0, 1)", Run.BAD, 4, -1).refuses("leg(1, #, 0, 1)", Run.BAD, 4, -1);
    }

    private static void legOfOneStation() {
        String sentence = "LEGS: between two unlike STATIONS; 3: BAD: they are one";
        stations(sentence, 6).refuses("leg(#, #, 0, 1)", Run.BAD, 0, 1, 5);
        Run twins = run(sentence).does("station(7)", "station(7)");
        twins.asks("leg(0, 1, 0, 1)", 0).refuses("leg(#, #, 0, 1)", Run.BAD, 0, 1);
    }

    private static void legRise() {
        String sentence = "LEGS: RISE (-99 to 99); 3: BAD: rise";
        Run run = stations(sentence, 2);
        run.asks("leg(0, 1, #, 1)", 0, -99, -98, 0, 98, 99);
        run.refuses("leg(0, 1, #, 1)", Run.BAD, -100, 100, MIN, MAX);
        run.asksBehind("leg(0, 1, -99, 1)", "stationOf(1, 0)", -99).asksBehind("leg(0, 1, 99, 1)", "stationOf(1, 0)", 99);
        run.asksBehind("leg(1, 0, -99, 1)", "stationOf(1, 0)", 99);
        Houses.mixed(run(sentence)).refuses("leg(0, 3, #, 1)", Run.BAD, -100, 100, MIN, MAX);
    }

    private static void legSlip() {
        String sentence = "LEGS: SLIP (1 to 9); 3: BAD: slip";
        Run run = stations(sentence, 2);
        run.asks("leg(0, 1, 0, #)", 0, 1, 2, 8, 9);
        run.refuses("leg(0, 1, 0, #)", Run.BAD, 0, 10, -1, -9, MIN, MAX);
        run.asksBehind("leg(0, 1, 0, 1)", "stationOf(1, 1)", 1).asksBehind("leg(0, 1, 0, 9)", "stationOf(1, 1)", 9);
        Houses.mixed(run(sentence)).refuses("leg(0, 3, 0, #)", Run.BAD, 0, 10, -1, MIN, MAX);
    }

    private static void legsAtMost() {
        String sentence = "LEGS, 12 at most, numbered as they come; 3: FULL";
        Run run = stations(sentence, 2);
        for (int leg = 0; leg < 12; leg++) {
            run.then("leg(0, 1, " + leg + ", 9)", leg).asks("many(1)", leg + 1);
        }
        run.refuses("leg(0, 1, 0, #)", Run.FULL, 1, 9).refuses("leg(1, 0, 0, 1)", Run.FULL);
        run.asks("mend(11, 0, 0)", 11).asks("stationOf(1, 2)", 0);
        Houses.full(run(sentence)).refuses("leg(0, 5, 0, 1)", Run.FULL);
    }

    private static void legBadAheadOfFull() {
        Run run = Houses.full(run("3: BAD: ..; FULL"));
        run.refuses("leg(#, 1, 0, 1)", Run.BAD, -1, 6, MAX).refuses("leg(0, #, 0, 1)", Run.BAD, -1, 6, MAX);
        run.refuses("leg(3, 3, 0, 1)", Run.BAD).refuses("leg(0, 1, #, 1)", Run.BAD, -100, 100);
        run.refuses("leg(0, 1, 0, #)", Run.BAD, 0, 10);
    }

    private static void theSea() {
        Run run = run("STATION 0 is at THE SEA; its DOUBT is 0, its LEVEL is 0").does("station(99)");
        run.asks("stationOf(0, 0)", 0).asks("stationOf(0, 1)", 0);
        run.does("station(0)", "leg(1, 0, 99, 9)", "leg(0, 1, 50, 1)");
        run.asks("stationOf(0, 0)", 0).asks("stationOf(0, 1)", 0).asks("stationOf(1, 0)", 50);
    }

    private static void withoutAWay() {
        Run run = stations("Without a way a STATION has neither", 4);
        run.asks("stationOf(#, 0)", Run.LOW_NONE, 1, 2, 3);
        run.does("leg(2, 3, 5, 1)", "leg(3, 1, 5, 1)").asks("stationOf(#, 1)", Run.LOW_NONE, 1, 2, 3);
        run.does("leg(2, 0, 5, 1)").asks("stationOf(1, 1)", 3).asks("stationOf(1, 0)", 5);
        Run kept = stations("Without a way a STATION has neither, nor when the way is gone", 2);
        kept.does("keep()", "leg(0, 1, 5, 1)").asks("stationOf(1, 0)", 5).does("back()");
        kept.asks("stationOf(1, #)", Run.LOW_NONE, 0, 1, 2);
    }

    private static void doubtIsTheLeast() {
        Run run = stations("DOUBT: the least SLIPS together of a way over LEGS", 6);
        run.does("leg(0, 5, 1, 9)", "leg(0, 1, 10, 1)", "leg(1, 2, 10, 2)", "leg(2, 3, 10, 2)", "leg(3, 4, 10, 2)");
        run.does("leg(4, 5, 10, 2)").asks("stationOf(5, 1)", 9).asks("stationOf(5, 0)", 1).asks("stationOf(5, 2)", 0);
        run.does("mend(5, 1, 1)").asks("stationOf(5, 1)", 8).asks("stationOf(5, 0)", 50).asks("stationOf(5, 2)", 5);
        run.does("mend(5, 1, 3)").asks("stationOf(5, 1)", 9).asks("stationOf(5, 0)", 1);
        Run back = stations("DOUBT: LEGS are gone over both ways, in whatever order they came", 6);
        back.does("leg(5, 4, -1, 1)", "leg(4, 3, -1, 1)", "leg(3, 2, -1, 1)", "leg(2, 1, -1, 1)", "leg(1, 0, -1, 1)");
        back.asks("stationOf(5, 1)", 5).asks("stationOf(5, 0)", 5).asks("stationOf(5, 2)", 0);
    }

    private static void greatestLevelsAndDoubts() {
        Run run = stations("LEVEL and DOUBT at their greatest and least", 6);
        for (int s = 0; s < 5; s++) {
            run.does("leg(" + s + ", " + (s + 1) + ", 99, 9)");
        }
        run.asks("stationOf(5, 0)", 495).asks("stationOf(5, 1)", 45);
        for (int leg = 0; leg < 5; leg++) {
            run.does("mend(" + leg + ", 0, -99)", "mend(" + leg + ", 1, 1)");
        }
        run.asks("stationOf(5, 0)", -495).asks("stationOf(5, 1)", 5);
    }

    private static void lastLegIsTheLeast() {
        Run run = stations("LAST LEG: the least LEG over which a way with the least SLIPS comes", 3);
        run.does("leg(1, 2, 40, 2)", "leg(0, 2, 7, 5)", "leg(0, 2, 8, 5)", "leg(0, 1, 1, 3)");
        run.asks("stationOf(2, 2)", 0).asks("stationOf(2, 0)", 41).asks("stationOf(2, 1)", 5);
        run.does("mend(0, 1, 3)").asks("stationOf(2, 2)", 1).asks("stationOf(2, 0)", 7);
        run.does("mend(2, 1, 4)").asks("stationOf(2, 2)", 2).asks("stationOf(2, 0)", 8);
        run.does("mend(1, 1, 4)").asks("stationOf(2, 2)", 1);
        run.asks("stationOf(1, 2)", 3);
    }

    private static void goneFromTheSecond() {
        Run run = stations("LEVEL: less RISE, if it is gone from the second one to the first", 3);
        run.does("leg(1, 0, 99, 1)", "leg(1, 2, -99, 1)").asks("stationOf(1, 0)", -99).asks("stationOf(2, 0)", -198);
        run.does("mend(0, 0, -99)").asks("stationOf(1, 0)", 99).asks("stationOf(2, 0)", 0);
        run.does("mend(0, 0, 0)").asks("stationOf(1, 0)", 0).asks("stationOf(2, 0)", -99);
    }

    private static void mendLeg() {
        String sentence = "4: of a LEG: LOW + BAD";
        stations(sentence, 2).refuses("mend(0, 0, 0)", Run.LOW_BAD);
        Run mixed = Houses.mixed(run(sentence));
        mixed.asks("mend(#, 1, 9)", 3, 0).asks("mend(3, 0, 1)", 13);
        mixed.refuses("mend(#, 0, 1)", Run.LOW_BAD, -1, 4, 12, MIN, MAX);
        mixed.refuses("mend(#, 1, 1)", Run.LOW_BAD, -1, 4, 12, MIN, MAX);
        Run full = Houses.full(run(sentence));
        full.asks("mend(11, 0, 0)", 6).asks("mend(11, 1, 1)", 3).refuses("mend(#, 0, 1)", Run.LOW_BAD, 12, -1);
    }

    private static void mendWhat() {
        Run run = Houses.mixed(run("4: what = 0 RISE, 1 SLIP: LOW + BAD"));
        run.asks("mend(1, 0, 1)", -7).asks("mend(1, 1, 1)", 2);
        run.refuses("mend(1, #, 1)", Run.LOW_BAD, -1, 2, 3, MIN, MAX);
    }

    private static void mendRise() {
        Run run = Houses.mixed(run("RISE (-99 to 99); 4: it becomes n: what it was; LOW + BAD"));
        run.asks("mend(0, 0, #)", 12, -99, -98, 0, 10, 98, 99);
        run.refuses("mend(0, 0, #)", Run.LOW_BAD, -100, 100, MIN, MAX);
        run.asksBehind("mend(0, 0, 99)", "stationOf(1, 0)", 99).asksBehind("mend(0, 0, -99)", "stationOf(1, 0)", -99);
        run.asksBehind("mend(0, 0, 99)", "mend(0, 0, 1)", 99);
    }

    private static void mendSlip() {
        Run run = Houses.mixed(run("SLIP (1 to 9); 4: it becomes n: what it was; LOW + BAD"));
        run.asks("mend(0, 1, #)", 3, 1, 2, 8, 9).refuses("mend(0, 1, #)", Run.LOW_BAD, 0, 10, -1, -9, 99, MIN, MAX);
        run.asksBehind("mend(0, 1, 1)", "stationOf(1, 1)", 1).asksBehind("mend(0, 1, 9)", "stationOf(1, 1)", 6);
        run.asksBehind("mend(0, 1, 9)", "mend(0, 1, 1)", 9);
    }

    private static void mendAnswersBelow0() {
        Run run = stations("a number may be below 0: refusals are told by LOW; 4: what it was", 2);
        run.does("leg(0, 1, -99, 1)").then("mend(0, 0, -1)", -99).then("mend(0, 0, -9)", -1).then("mend(0, 0, -4)", -9);
        run.then("mend(0, 0, 0)", -4).then("mend(0, 0, 99)", 0).then("mend(0, 0, 99)", 99);
        run.refuses("mend(0, 0, 100)", -10000001);
    }

    private static void stationOfStation() {
        String sentence = "5: of a STATION: LOW + BAD";
        Run mixed = Houses.mixed(run(sentence));
        mixed.asks("stationOf(0, 3)", 10).asks("stationOf(3, 3)", 5);
        for (int what = 0; what <= 4; what++) {
            mixed.refuses("stationOf(#, " + what + ")", Run.LOW_BAD, -1, 4, 6, MIN, MAX);
        }
        Houses.full(run(sentence)).asks("stationOf(5, 3)", 35).refuses("stationOf(#, 3)", Run.LOW_BAD, 6, -1);
    }

    private static void stationOfWhat() {
        Run run = Houses.mixed(run("5: what = 0 LEVEL .. 4 LEAN: LOW + BAD"));
        run.asks("stationOf(1, 0)", 12).asks("stationOf(1, 1)", 3).asks("stationOf(1, 2)", 0).asks("stationOf(1, 3)", 40);
        run.asks("stationOf(1, 4)", 0).refuses("stationOf(1, #)", Run.LOW_BAD, -1, 5, MIN, MAX);
        run.refuses("stationOf(0, #)", Run.LOW_BAD, -1, 5, MIN, MAX);
    }

    private static void stationOfNone() {
        Run run = Houses.mixed(run("5: LOW + BAD; LOW + NONE: it has none (what 0 to 2)"));
        run.refuses("stationOf(3, #)", Run.LOW_NONE, 0, 1, 2).leaves("stationOf(3, 3)", 5).leaves("stationOf(3, 4)", 0);
        run.refuses("stationOf(3, #)", Run.LOW_BAD, -1, 5, MIN, MAX);
    }

    private static void lastLegOfTheSea() {
        String sentence = "5: its LAST LEG (of STATION 0: -9)";
        run(sentence).does("station(0)").leaves("stationOf(0, 2)", -9);
        Houses.mixed(run(sentence)).leaves("stationOf(0, 2)", -9);
        stations(sentence, 2).does("leg(0, 1, -9, 9)").asks("stationOf(1, 0)", -9).asks("stationOf(1, 2)", 0);
    }

    private static void againNone() {
        String sentence = "6: NONE: there is no LEG";
        run(sentence).refuses("again()", Run.NONE);
        stations(sentence, 6).refuses("again()", Run.NONE);
        stations(sentence, 2).does("leg(0, 1, 0, 1)").leaves("again()", 0);
        stations(sentence, 2).does("keep()", "leg(0, 1, 0, 1)", "back()").refuses("again()", Run.NONE);
    }

    private static void againLeastOfSeveral() {
        Run run = stations("AGAIN: the LEG (the least of several)", 3);
        run.does("leg(0, 1, 0, 1)", "leg(0, 2, 0, 1)").asks("again()", 0);
        run.does("mend(1, 1, 2)").asks("again()", 1);
        run.does("mend(0, 1, 2)").asks("again()", 0);
        run.does("mend(1, 1, 9)", "leg(2, 0, 0, 9)").asks("again()", 1);
        Run pair = stations("AGAIN: the LEG (the least of several), though a later one is the LAST LEG", 2);
        pair.does("leg(0, 1, 0, 9)", "leg(0, 1, 0, 2)").asks("stationOf(1, 2)", 1).asks("again()", 0);
    }

    private static void againOfStationsThatHaveDoubts() {
        Run run = stations("AGAIN: all DOUBTS together (of STATIONS that have them)", 6);
        run.does("leg(4, 5, 0, 9)", "leg(3, 4, 0, 9)", "leg(0, 1, 0, 2)").leaves("again()", 2);
        run.does("leg(1, 3, 0, 1)").asks("again()", 1);
    }

    private static void againAlone() {
        Run run = stations("AGAIN: if it alone had SLIP 1", 4);
        run.does("leg(0, 1, 0, 3)", "leg(1, 2, 0, 4)", "leg(2, 3, 0, 9)");
        // as they are 3 + 7 + 16; with leg 0 at 1: 1 + 5 + 14 = 20, leg 1: 3 + 4 + 13 = 20, leg 2: 3 + 7 + 8 = 18
        run.leaves("again()", 2).does("mend(2, 1, 7)").leaves("again()", 0);
        // 3 + 7 + 14; with leg 0 at 1: 1 + 5 + 12 = 18, leg 1: 3 + 4 + 11 = 18, leg 2: 3 + 7 + 8 = 18
        run.does("mend(2, 1, 8)").leaves("again()", 2);
        run.asks("stationOf(3, 1)", 15);
    }

    private static void againLast() {
        Run run = stations("AGAIN: the last of 12 LEGS", 6);
        for (int leg = 0; leg < 11; leg++) {
            run.does("leg(0, 1, 0, 1)");
        }
        run.does("leg(1, 2, 0, 9)").leaves("again()", 11).does("mend(11, 1, 1)").leaves("again()", 0);
    }
}
