/** The boundary sentences about points and masses: part 2 of the Terms, promises 7 to 9 and LEAN of 5. */
public final class EdgesPointsTest {
    private static final int MIN = Run.MIN, MAX = Run.MAX;
    private static final Checks CHECKS = new Checks("EdgesPointsTest");

    public static void main(String[] args) {
        pointPlace();
        pointMass();
        pointsAtMost();
        pointBadAheadOfFull();
        massPoint();
        massNumber();
        massesNumber();
        away();
        leanWithoutPoints();
        leanAtTheSamePlace();
        leanOfLesserPlaces();
        leanIsCutEach();
        leanIsCutTowards0();
        leanAtItsGreatest();
        CHECKS.end();
    }

    private static Run run(String sentence) {
        return new Run(CHECKS, sentence);
    }

    private static void pointPlace() {
        String sentence = "POINTS: a PLACE (0 to 999); 7: BAD";
        Run run = run(sentence);
        run.asks("point(#, 0)", 0, 0, 1, 100, 998, 999).refuses("point(#, 0)", Run.BAD, -1, 1000, -999, MIN, MAX);
        Houses.mixed(run(sentence)).asks("point(#, 0)", 5, 0, 999).refuses("point(#, 0)", Run.BAD, -1, 1000, MIN, MAX);
    }

    private static void pointMass() {
        String sentence = "POINTS: MASS (0 to 99); 7: BAD";
        Run run = run(sentence);
        run.asks("point(0, #)", 0, 0, 1, 98, 99).refuses("point(0, #)", Run.BAD, -1, 100, -99, MIN, MAX);
        run.asksBehind("point(0, 99)", "mass(0, 0)", 99).asksBehind("point(0, 0)", "mass(0, 99)", 0);
        Houses.mixed(run(sentence)).refuses("point(0, #)", Run.BAD, -1, 100, MIN, MAX);
    }

    private static void pointsAtMost() {
        String sentence = "POINTS, 8 at most, numbered as they come; 7: FULL";
        Run run = run(sentence);
        for (int p = 0; p < 8; p++) {
            run.then("point(500, " + p + ")", p).asks("many(2)", p + 1);
        }
        run.refuses("point(#, 0)", Run.FULL, 0, 500, 999).asks("mass(7, 0)", 7);
        Houses.full(run(sentence)).refuses("point(#, 0)", Run.FULL, 0, 999);
    }

    private static void pointBadAheadOfFull() {
        Run run = Houses.full(run("7: BAD; FULL"));
        run.refuses("point(#, 0)", Run.BAD, -1, 1000, MIN, MAX).refuses("point(0, #)", Run.BAD, -1, 100, MIN, MAX);
    }

    private static void massPoint() {
        String sentence = "8: MASS of a POINT: BAD";
        run(sentence).refuses("mass(#, 0)", Run.BAD, 0, -1);
        run(sentence).does("station(0)").refuses("mass(0, 0)", Run.BAD);
        Run mixed = Houses.mixed(run(sentence));
        mixed.asks("mass(0, 1)", 3).asks("mass(4, 1)", 2).refuses("mass(#, 1)", Run.BAD, -1, 5, 8, MIN, MAX);
        Houses.full(run(sentence)).asks("mass(7, 0)", 7).refuses("mass(#, 0)", Run.BAD, -1, 8);
    }

    private static void massNumber() {
        Run run = Houses.mixed(run("MASS (0 to 99); 8: becomes n: what it was. BAD"));
        run.asks("mass(2, #)", 7, 0, 1, 7, 98, 99).refuses("mass(2, #)", Run.BAD, -1, 100, MIN, MAX);
        run.asksBehind("mass(2, 99)", "mass(2, 0)", 99).asksBehind("mass(2, 0)", "mass(2, 99)", 0);
        run.leaves("mass(2, 7)", 7);
    }

    private static void massesNumber() {
        String sentence = "the LAW OF MASSES 0 (at first), 1, 2; 9: what it was. BAD";
        Run run = run(sentence);
        run.asks("masses(#)", 0, 0, 1, 2).refuses("masses(#)", Run.BAD, -1, 3, 4, MIN, MAX);
        run.then("masses(2)", 0).then("masses(1)", 2).then("masses(0)", 1).then("masses(0)", 0);
        Houses.mixed(run(sentence)).leaves("masses(1)", 1).refuses("masses(#)", Run.BAD, -1, 3, MIN, MAX);
    }

    private static void away() {
        int[][] all = {{0, 0, 0}, {99, 0, 99}, {0, 99, 99}, {99, 99, 0}, {0, 999, 999}, {99, 999, 900}, {1, 0, 1}};
        for (int[] one : all) {
            Run run = run("AWAY: how far their PLACES are from each other: " + one[2]);
            run.does("station(" + one[0] + ")", "point(" + one[1] + ", 0)", "sight(1, 0, 0, 0, 0)");
            run.reads("bend 1 if away=" + one[2] + ";").asks("sightOf(0, 4)", 1);
        }
    }

    private static void leanWithoutPoints() {
        Run run = run("LEAN: over POINTS the sum (of none: 0)").does("station(0)", "station(99)");
        run.asks("stationOf(#, 4)", 0, 0, 1).does("point(0, 0)", "point(99, 0)").asks("stationOf(#, 4)", 0, 0, 1);
    }

    private static void leanAtTheSamePlace() {
        Run run = run("LEAN: by (AWAY times AWAY, and 1): AWAY 0 divides by 1; a like PLACE is not a lesser one");
        run.does("station(50)", "point(50, 1)").asks("stationOf(0, 4)", 100);
        run.does("mass(0, 99)").asks("stationOf(0, 4)", 9900);
        run.does("mass(0, 0)").asks("stationOf(0, 4)", 0);
    }

    private static void leanOfLesserPlaces() {
        Run run = run("LEAN: of those with a lesser PLACE than the STATION's less that").does("station(50)");
        run.asksBehind("point(49, 99)", "stationOf(0, 4)", -4950).asksBehind("point(51, 99)", "stationOf(0, 4)", 4950);
        run.asksBehind("point(50, 99)", "stationOf(0, 4)", 9900).asksBehind("point(0, 99)", "stationOf(0, 4)", -3);
        run.does("point(49, 99)", "point(51, 99)").asks("stationOf(0, 4)", 0);
    }

    private static void leanIsCutEach() {
        Run run = run("LEAN: (each cut)").does("station(50)", "point(55, 1)").asks("stationOf(0, 4)", 3);
        run.does("point(55, 1)", "point(55, 1)").asks("stationOf(0, 4)", 9);
        run.does("point(60, 1)", "point(60, 1)").asks("stationOf(0, 4)", 9);
        run.does("point(41, 1)").asks("stationOf(0, 4)", 8).does("point(40, 1)").asks("stationOf(0, 4)", 8);
    }

    private static void leanIsCutTowards0() {
        int[][] all = {{55, 1, 3, 1, 0}, {45, 1, -3, -1, 0}, {55, 2, 7, 3, 1}, {45, 2, -7, -3, -1}, {57, 2, 4, 2, 1},
            {43, 2, -4, -2, -1}, {57, 1, 2, 1, 0}, {43, 1, -2, -1, 0}};
        for (int[] one : all) {
            Run run = run("LEAN: times 4, 2, 1, then by 4; quotients are cut towards 0").does("station(50)");
            run.does("point(" + one[0] + ", " + one[1] + ")").asks("stationOf(0, 4)", one[2]);
            run.does("masses(1)").asks("stationOf(0, 4)", one[3]).does("masses(2)").asks("stationOf(0, 4)", one[4]);
        }
    }

    private static void leanAtItsGreatest() {
        Run great = run("LEAN at its greatest").does("station(99)");
        Run least = run("LEAN at its least").does("station(99)");
        for (int p = 0; p < 8; p++) {
            great.does("point(99, 99)");
            least.does("point(98, 99)");
        }
        great.asks("stationOf(0, 4)", 79200).does("masses(1)").asks("stationOf(0, 4)", 39600);
        great.does("masses(2)").asks("stationOf(0, 4)", 19800);
        least.asks("stationOf(0, 4)", -39600).does("masses(1)").asks("stationOf(0, 4)", -19800);
        least.does("masses(2)").asks("stationOf(0, 4)", -9900);
    }
}
