/** The boundary sentences about sights, feet and spans: part 2 of the Terms, promises 10 to 18. */
public final class EdgesSightsTest {
    private static final int MIN = Run.MIN, MAX = Run.MAX;
    private static final Checks CHECKS = new Checks("EdgesSightsTest");

    public static void main(String[] args) {
        sightKind();
        sightStation();
        sightPoint();
        sightSlant();
        sightWhen();
        sightsAtMost();
        sightBadAheadOfFull();
        sightOfSight();
        sightOfWhat();
        sightOfBelow0();
        told();
        bend();
        bendByAway();
        slack();
        fallsSight();
        fallsNewOrNot();
        footSight();
        footWhat();
        footNone();
        footWithoutAway();
        footIsCut();
        footAtItsGreatest();
        reaches();
        spanPoint();
        spanWhat();
        spanNone();
        spanOfOneFoot();
        spanRefusalsInOrder();
        countedPoint();
        countedBits();
        hangsSight();
        hangsWithoutOthers();
        hangsNone();
        hangsState();
        hangsAtItsGreatest();
        mayBeArguments();
        mayBeNone();
        mayBeSharesAFoot();
        mayBeWithoutSpans();
        mayBeBits();
        nextArguments();
        nextNone();
        nextLeastOfSeveral();
        CHECKS.end();
    }

    private static Run run(String sentence) {
        return new Run(CHECKS, sentence);
    }

    /** From station 0 the point 0 is 10 away, so that a BOTH sight's foot is its slant. */
    private static Run plain(String sentence) {
        return run(sentence).does("station(0)", "point(10, 0)");
    }

    private static void sightKind() {
        String sentence = "SIGHTS: of a KIND (1 MORNING .. 5 HIDDEN); 10: BAD";
        plain(sentence).asks("sight(#, 0, 0, 0, 0)", 0, 1, 2, 3, 4, 5)
                .refuses("sight(#, 0, 0, 0, 0)", Run.BAD, 0, 6, -1, MIN, MAX);
        Houses.mixed(run(sentence)).asks("sight(#, 0, 0, 0, 0)", 6, 1, 5)
                .refuses("sight(#, 0, 0, 0, 0)", Run.BAD, 0, 6, -1, MIN, MAX);
    }

    private static void sightStation() {
        String sentence = "SIGHTS: from a STATION; 10: BAD";
        run(sentence).does("point(0, 0)").refuses("sight(1, #, 0, 0, 0)", Run.BAD, 0, -1);
        plain(sentence).refuses("sight(1, #, 0, 0, 0)", Run.BAD, -1, 1, MIN, MAX);
        Run mixed = Houses.mixed(run(sentence));
        mixed.asks("sight(1, #, 0, 0, 0)", 6, 0, 3).refuses("sight(1, #, 0, 0, 0)", Run.BAD, -1, 4, 6, MIN, MAX);
    }

    private static void sightPoint() {
        String sentence = "SIGHTS: of a POINT; 10: BAD";
        run(sentence).does("station(0)").refuses("sight(1, 0, #, 0, 0)", Run.BAD, 0, -1);
        plain(sentence).refuses("sight(1, 0, #, 0, 0)", Run.BAD, -1, 1, MIN, MAX);
        Run mixed = Houses.mixed(run(sentence));
        mixed.asks("sight(1, 0, #, 0, 0)", 6, 0, 4).refuses("sight(1, 0, #, 0, 0)", Run.BAD, -1, 5, 8, MIN, MAX);
    }

    private static void sightSlant() {
        String sentence = "SIGHTS: with a SLANT (-99 to 999); 10: BAD";
        Run run = plain(sentence);
        run.asks("sight(3, 0, 0, #, 0)", 0, -99, -98, 0, 998, 999);
        run.refuses("sight(3, 0, 0, #, 0)", Run.BAD, -100, 1000, MIN, MAX);
        run.asksBehind("sight(3, 0, 0, -99, 0)", "sightOf(0, 3)", -99);
        run.asksBehind("sight(3, 0, 0, 999, 0)", "sightOf(0, 3)", 999);
        Houses.mixed(run(sentence)).refuses("sight(3, 0, 0, #, 0)", Run.BAD, -100, 1000, MIN, MAX);
    }

    private static void sightWhen() {
        String sentence = "SIGHTS: an HOUR (0 to 23), a HEAT (0 to 40); 10: when: 100 times HOUR, and HEAT. BAD";
        Run run = plain(sentence);
        run.asks("sight(1, 0, 0, 0, #)", 0, 0, 1, 39, 40, 100, 140, 2200, 2300, 2301, 2339, 2340);
        run.refuses("sight(1, 0, 0, 0, #)", Run.BAD, -1, 41, 60, 99, 141, 199, 2341, 2399, 2400, 2440, 2401);
        run.refuses("sight(1, 0, 0, 0, #)", Run.BAD, -60, -99, -100, -2300, 10000, MIN, MIN + 1, MAX, MAX - 47);
        Houses.mixed(run(sentence)).refuses("sight(1, 0, 0, 0, #)", Run.BAD, -1, 41, 2341, 2400, MIN, MAX);
        int[] whens = {0, 40, 100, 1220, 2300, 2340};
        for (int when : whens) {
            Run seen = plain(sentence + ": told by the LAW").does("sight(1, 0, 0, 0, " + when + ")");
            seen.reads("bend 9 if hour=" + when / 100 + " and heat=" + when % 100 + ";").asks("sightOf(0, 4)", 9);
        }
    }

    private static void sightsAtMost() {
        String sentence = "SIGHTS, 24 at most, numbered as they come; 10: FULL";
        Run run = plain(sentence);
        for (int k = 0; k < 24; k++) {
            run.then("sight(3, 0, 0, " + k + ", 0)", k).asks("many(3)", k + 1);
        }
        run.refuses("sight(#, 0, 0, 0, 0)", Run.FULL, 1, 2, 3, 4, 5).asks("sightOf(23, 3)", 23);
        run.does("falls(23, true)").refuses("sight(1, 0, 0, 0, 0)", Run.FULL);
        Houses.full(run(sentence)).refuses("sight(1, 0, 0, 0, 2340)", Run.FULL);
    }

    private static void sightBadAheadOfFull() {
        Run run = Houses.full(run("10: BAD; FULL"));
        run.refuses("sight(#, 0, 0, 0, 0)", Run.BAD, 0, 6).refuses("sight(1, #, 0, 0, 0)", Run.BAD, -1, 6);
        run.refuses("sight(1, 0, #, 0, 0)", Run.BAD, -1, 8).refuses("sight(1, 0, 0, #, 0)", Run.BAD, -100, 1000);
        run.refuses("sight(1, 0, 0, 0, #)", Run.BAD, -1, 41, 2400);
    }

    private static void sightOfSight() {
        String sentence = "11: of a SIGHT: LOW + BAD";
        plain(sentence).refuses("sightOf(#, 0)", Run.LOW_BAD, 0, -1);
        Run mixed = Houses.mixed(run(sentence));
        mixed.asks("sightOf(5, 0)", 2);
        for (int what = 0; what <= 7; what++) {
            mixed.refuses("sightOf(#, " + what + ")", Run.LOW_BAD, -1, 6, 24, MIN, MAX);
        }
        Houses.full(run(sentence)).asks("sightOf(23, 0)", 4).refuses("sightOf(#, 0)", Run.LOW_BAD, 24, -1);
    }

    private static void sightOfWhat() {
        Run run = Houses.mixed(run("11: what = 0 KIND .. 7 1 if it stands, else 0: LOW + BAD"));
        // FAR from place 99 of place 999 at 23:40, by "bend 9 if kind = 4 and not hour < 12"
        int[] want = {4, 2, 2, 50, 9, 18 + 90, 3 + 18, 1};
        for (int what = 0; what <= 7; what++) {
            run.leaves("sightOf(2, " + what + ")", want[what]);
        }
        run.leaves("sightOf(5, 7)", 0).refuses("sightOf(2, #)", Run.LOW_BAD, -1, 8, MIN, MAX);
    }

    private static void sightOfBelow0() {
        Run run = plain("11: a SLANT may be below 0: refusals are told by LOW");
        run.does("sight(1, 0, 0, -1, 0)", "sight(1, 0, 0, -99, 0)", "sight(1, 0, 0, -9, 0)");
        run.asks("sightOf(0, 3)", -1).asks("sightOf(1, 3)", -99).asks("sightOf(2, 3)", -9);
        run.refuses("sightOf(3, 3)", -10000001);
    }

    private static void told() {
        Run run = plain("TOLD: N of the last LINE whose COND holds (a LINE without COND always), 0 without");
        run.does("sight(1, 0, 0, 0, 1530)").asks("sightOf(0, 4)", 0);
        run.reads("bend 99;").asks("sightOf(0, 4)", 99).reads("bend 0;").asks("sightOf(0, 4)", 0);
        run.reads("bend 5;bend 0 if 1=1;").asks("sightOf(0, 4)", 0);
        run.reads("bend 5;bend 6 if 1=2;").asks("sightOf(0, 4)", 5);
        run.reads("bend 6 if 1=2;").asks("sightOf(0, 4)", 0);
        run.reads("bend 1;bend 2;bend 3;bend 4;bend 5;bend 6;bend 7;bend 8;").asks("sightOf(0, 4)", 8);
        run.reads("bend 1;bend 2 if 1=2;bend 3 if 1=2;bend 4 if 1=2;bend 5 if 1=2;bend 6 if 1=2;bend 7 if 1=2;bend 8 if 1=2;");
        run.asks("sightOf(0, 4)", 1).does("read()").asks("sightOf(0, 4)", 0);
        String[] edges = {"heat>29", "heat<31", "hour>14", "hour<16", "away>9", "away<11", "kind>0", "kind<2", "heat=30"};
        String[] beyond = {"heat>30", "heat<30", "hour>15", "hour<15", "away>10", "away<10", "kind>1", "kind<1", "heat=29"};
        for (int i = 0; i < edges.length; i++) {
            run.reads("bend 3 if " + edges[i] + ";").asks("sightOf(0, 4)", 3);
            run.reads("bend 3 if " + beyond[i] + ";").asks("sightOf(0, 4)", 0);
        }
    }

    private static void bend() {
        int[] tolds = {0, 1, 2, 3, 98, 99};
        for (int told : tolds) {
            Run run = plain("BEND: MORNING twice what is TOLD; NOON half of it (cut); BOTH 0; FAR; HIDDEN: by " + told);
            run.reads("bend " + told + ";");
            int[] want = {told * 2, told / 2, 0, told * 2 + 1, told / 2 + 1};
            for (int kind = 1; kind <= 5; kind++) {
                run.does("sight(" + kind + ", 0, 0, 0, 0)").asks("sightOf(" + (kind - 1) + ", 5)", want[kind - 1]);
            }
        }
    }

    private static void bendByAway() {
        int[][] all = {{0, 0, 3}, {9, 0, 3}, {10, 1, 3}, {19, 1, 3}, {20, 2, 3}, {49, 4, 3}, {50, 5, 4}, {99, 9, 4},
            {100, 10, 5}, {949, 94, 21}, {950, 95, 22}, {999, 99, 22}};
        for (int[] one : all) {
            Run run = run("FAR: BEND: AWAY by 10 more; SLACK: AWAY by 50 more: " + one[0]);
            run.does("station(0)", "point(" + one[0] + ", 0)", "sight(4, 0, 0, 0, 0)", "sight(5, 0, 0, 0, 0)");
            run.asks("sightOf(0, 5)", one[1]).asks("sightOf(0, 6)", one[2]);
            run.asks("sightOf(1, 5)", 1).asks("sightOf(1, 6)", 10);
        }
        Run back = run("FAR: AWAY of a lesser PLACE is no less").does("station(99)", "point(0, 0)", "sight(4, 0, 0, 0, 0)");
        back.asks("sightOf(0, 5)", 9).asks("sightOf(0, 6)", 4);
    }

    private static void slack() {
        Run run = run("SLACK: MORNING 3; NOON 5; BOTH 1; FAR; HIDDEN twice as NOON").does("station(0)", "point(999, 0)");
        int[] want = {3, 5, 1, 22, 10};
        for (int kind = 1; kind <= 5; kind++) {
            run.does("sight(" + kind + ", 0, 0, 0, 0)").asks("sightOf(" + (kind - 1) + ", 6)", want[kind - 1]);
        }
    }

    private static void fallsSight() {
        String sentence = "12: a SIGHT is FALSE, or stands again: BAD";
        plain(sentence).refuses("falls(#, true)", Run.BAD, 0, -1).refuses("falls(#, false)", Run.BAD, 0, -1);
        Run mixed = Houses.mixed(run(sentence));
        mixed.refuses("falls(#, true)", Run.BAD, -1, 6, 24, 31, 32, MIN, MAX);
        mixed.refuses("falls(#, false)", Run.BAD, -1, 6, 24, 31, 32, MIN, MAX);
        Houses.full(run(sentence)).asks("falls(23, false)", 1).refuses("falls(#, false)", Run.BAD, 24, -1);
    }

    private static void fallsNewOrNot() {
        Run run = Houses.mixed(run("12: 1 if that is new, else 0"));
        run.leaves("falls(0, false)", 0).leaves("falls(5, true)", 0);
        run.then("falls(0, true)", 1).leaves("falls(0, true)", 0).asks("sightOf(0, 7)", 0);
        run.then("falls(0, false)", 1).leaves("falls(0, false)", 0).asks("sightOf(0, 7)", 1);
        Run last = Houses.full(run("12: the first and the last of 24 SIGHTS"));
        last.then("falls(23, false)", 1).asks("sightOf(23, 7)", 1).asks("sightOf(22, 7)", 0).asks("sightOf(0, 7)", 1);
        last.then("falls(0, true)", 1).asks("sightOf(0, 7)", 0).asks("sightOf(1, 7)", 1).asks("sightOf(23, 7)", 1);
        last.asks("many(4)", 8);
    }

    private static void footSight() {
        String sentence = "13: a SIGHT: LOW + BAD";
        plain(sentence).refuses("foot(#, 0)", Run.LOW_BAD, 0, -1);
        Run mixed = Houses.mixed(run(sentence));
        for (int what = 0; what <= 2; what++) {
            mixed.refuses("foot(#, " + what + ")", Run.LOW_BAD, -1, 6, 24, MIN, MAX);
        }
    }

    private static void footWhat() {
        Run run = plain("13: FOOT (what 0), the least (1), the greatest foot (2): LOW + BAD");
        run.does("sight(2, 0, 0, 7, 0)").leaves("foot(0, 0)", 7).leaves("foot(0, 1)", 2).leaves("foot(0, 2)", 12);
        run.refuses("foot(0, #)", Run.LOW_BAD, -1, 3, MIN, MAX);
        run.does("falls(0, true)").asks("foot(0, 0)", 7).asks("foot(0, 1)", 2).asks("foot(0, 2)", 12);
    }

    private static void footNone() {
        Run run = Houses.mixed(run("13: LOW + BAD; LOW + NONE: its STATION has no LEVEL"));
        run.refuses("foot(3, #)", Run.LOW_NONE, 0, 1, 2).refuses("foot(3, #)", Run.LOW_BAD, -1, 3, MIN, MAX);
        Run way = run("13: LOW + NONE till there is a way").does("station(0)", "station(0)", "point(10, 0)");
        way.does("sight(3, 1, 0, 5, 0)").asks("foot(0, 0)", Run.LOW_NONE);
        way.does("leg(1, 0, 20, 2)").asks("foot(0, 0)", -15).asks("foot(0, 1)", -18).asks("foot(0, 2)", -12);
    }

    private static void footWithoutAway() {
        Run run = run("FOOT: without AWAY it is LEVEL").does("station(50)", "station(60)", "leg(0, 1, -33, 4)");
        run.does("point(50, 99)", "point(60, 99)", "sight(3, 0, 0, 999, 0)", "sight(3, 1, 1, -99, 0)");
        run.asks("foot(0, 0)", 0).asks("foot(1, 0)", -33).asks("foot(1, 1)", -38).asks("foot(1, 2)", -28);
    }

    private static void footIsCut() {
        int[][] all = {{3, 7, 2}, {3, -7, -2}, {3, 3, 0}, {3, -3, 0}, {3, 10, 3}, {3, -10, -3}, {1, -9, 0}, {1, -10, -1},
            {14, 0, 0}, {15, 0, 1}, {19, 0, 1}, {20, 0, 2}, {999, 0, 4990}, {15, -1, 0}, {15, 1, 2}, {14, -1, -1}};
        for (int[] one : all) {
            Run run = run("FOOT: times AWAY by 10, and AWAY times AWAY by 200: quotients are cut towards 0, each");
            run.does("station(0)", "point(" + one[0] + ", 0)", "sight(3, 0, 0, " + one[1] + ", 0)");
            run.asks("foot(0, 0)", one[2]);
        }
    }

    private static void footAtItsGreatest() {
        Run great = chain("FOOT at its greatest", 99, 1);
        Run least = chain("FOOT at its least", -99, 0);
        for (int p = 0; p < 7; p++) {
            great.does("point(0, 99)");
            least.does("point(0, 99)");
        }
        great.does("point(999, 0)", "sight(3, 5, 7, 999, 0)");
        great.asks("stationOf(5, 4)", -34650);
        great.asks("foot(0, 0)", 495 + 35649 * 998 / 10 + 4980).asks("foot(0, 2)", 3563245 + 46);
        great.asks("span(7, 1)", 3563291).asks("said(7)", 3563245).asks("believed(7, 3563291)", 1);
        least.does("point(999, 0)", "sight(4, 5, 7, -99, 0)").reads("bend 99;");
        least.asks("stationOf(5, 4)", 69300);
        least.asks("foot(0, 0)", -495 - 6962630 + 4990).asks("foot(0, 1)", -6958135 - 67);
        least.asks("span(7, 0)", -6958202).asks("said(7)", -6958135).asks("believed(7, -6958202)", 1);
    }

    /** Six stations at a place, each 9 in doubt more than the one ahead. */
    private static Run chain(String sentence, int rise, int place) {
        Run run = run(sentence).does("station(" + place + ")");
        for (int s = 1; s < 6; s++) {
            run.does("station(" + place + ")", "leg(" + (s - 1) + ", " + s + ", " + rise + ", 9)");
        }
        return run;
    }

    private static void reaches() {
        Run run = run("It REACHES from FOOT less SLACK and DOUBT to FOOT with these more; it counts, if it stands ..");
        run.does("station(0)", "station(0)", "leg(0, 1, 0, 9)", "point(10, 0)", "sight(3, 0, 0, 20, 0)");
        run.asks("foot(0, 1)", 19).asks("foot(0, 2)", 21).does("falls(0, true)", "sight(5, 1, 0, 20, 0)");
        run.asks("foot(1, 1)", 0).asks("foot(1, 2)", 38).asks("span(0, 0)", 0).asks("span(0, 1)", 38);
        run.does("mend(0, 1, 1)").asks("foot(1, 1)", 8).asks("span(0, 1)", 30);
    }

    private static void spanPoint() {
        String sentence = "14: of the SPAN of a POINT: LOW + BAD";
        run(sentence).does("station(0)").refuses("span(#, 0)", Run.LOW_BAD, 0, -1);
        Run mixed = Houses.mixed(run(sentence));
        mixed.refuses("span(#, 0)", Run.LOW_BAD, -1, 5, 8, MIN, MAX).refuses("span(#, 1)", Run.LOW_BAD, -1, 5, MIN, MAX);
        Houses.full(run(sentence)).refuses("span(#, 0)", Run.LOW_BAD, -1, 8);
    }

    private static void spanWhat() {
        Run run = plain("14: LOW (what 0), HIGH (1): LOW + BAD").does("sight(2, 0, 0, -20, 0)");
        run.leaves("span(0, 0)", -25).leaves("span(0, 1)", -15).refuses("span(0, #)", Run.LOW_BAD, -1, 2, MIN, MAX);
    }

    private static void spanNone() {
        Run run = run("SPAN: none without such SIGHTS; 14: LOW + NONE").does("station(0)", "station(0)", "point(10, 0)");
        run.does("point(10, 0)").refuses("span(0, #)", Run.LOW_NONE, 0, 1);
        run.does("sight(3, 0, 1, 5, 0)").refuses("span(0, #)", Run.LOW_NONE, 0, 1).asks("span(1, 0)", 4);
        run.does("sight(3, 1, 0, 5, 0)").refuses("span(0, #)", Run.LOW_NONE, 0, 1);
        run.does("leg(0, 1, 0, 1)").asks("span(0, 0)", 3).asks("span(0, 1)", 7);
        run.does("falls(1, true)").refuses("span(0, #)", Run.LOW_NONE, 0, 1);
    }

    private static void spanOfOneFoot() {
        Run run = plain("SPAN: CONTRARY if nothing lies within all; 14: LOW + STATE").does("sight(3, 0, 0, 250, 0)");
        run.asks("span(0, 0)", 249).asks("span(0, 1)", 251);
        Run one = plain("SPAN: one foot is within all: LOW is HIGH").does("sight(3, 0, 0, 250, 0)", "sight(3, 0, 0, 252, 0)");
        one.asks("span(0, 0)", 251).asks("span(0, 1)", 251).asks("said(0)", 251).asks("highest(0, 0)", 1);
        Run below = plain("SPAN: one foot is within all, the other way").does("sight(3, 0, 0, 250, 0)");
        below.does("sight(3, 0, 0, 248, 0)").asks("span(0, 0)", 249).asks("span(0, 1)", 249);
        run.does("sight(3, 0, 0, 253, 0)").refuses("span(0, #)", Run.LOW_STATE, 0, 1);
        run.does("falls(0, true)").asks("span(0, 0)", 252).does("falls(0, false)", "falls(1, true)").asks("span(0, 1)", 251);
        Run three = plain("SPAN: all SIGHTS that count, not two of them").does("sight(2, 0, 0, 250, 0)");
        three.does("sight(2, 0, 0, 258, 0)", "sight(2, 0, 0, 254, 0)").asks("span(0, 0)", 253).asks("span(0, 1)", 255);
        three.does("sight(3, 0, 0, 257, 0)").asks("span(0, #)", Run.LOW_STATE, 0, 1);
    }

    private static void spanRefusalsInOrder() {
        Run none = plain("14: LOW + BAD; LOW + NONE").refuses("span(0, #)", Run.LOW_BAD, -1, 2, MIN, MAX);
        none.asks("span(0, #)", Run.LOW_NONE, 0, 1);
        Run contrary = plain("14: LOW + BAD; ..; LOW + STATE").does("sight(3, 0, 0, 1, 0)", "sight(3, 0, 0, 9, 0)");
        contrary.refuses("span(0, #)", Run.LOW_BAD, -1, 2, MIN, MAX).refuses("span(0, #)", Run.LOW_STATE, 0, 1);
    }

    private static void countedPoint() {
        String sentence = "15: SIGHTS of a POINT that count: BAD";
        run(sentence).does("station(0)").refuses("counted(#)", Run.BAD, 0, -1);
        Houses.mixed(run(sentence)).leaves("counted(0)", 1).leaves("counted(1)", 2).leaves("counted(3)", 0)
                .leaves("counted(4)", 16).refuses("counted(#)", Run.BAD, -1, 5, 8, MIN, MAX);
        Houses.full(run(sentence)).leaves("counted(7)", 128).refuses("counted(#)", Run.BAD, -1, 8);
    }

    private static void countedBits() {
        Run run = plain("15: SIGHTS that count, as bits: sets are told by bits").asks("counted(0)", 0);
        for (int k = 0; k < 24; k++) {
            run.does("sight(3, 0, 0, " + k + ", 0)").asks("counted(0)", (2 << k) - 1);
        }
        for (int k = 0; k < 23; k++) {
            run.does("falls(" + k + ", true)");
        }
        run.asks("counted(0)", 1 << 23).asks("many(4)", 1).does("falls(23, true)").asks("counted(0)", 0).asks("many(4)", 0);
    }

    private static void hangsSight() {
        String sentence = "16: HANGS of a SIGHT: BAD";
        plain(sentence).refuses("hangs(#)", Run.BAD, 0, -1);
        Houses.mixed(run(sentence)).refuses("hangs(#)", Run.BAD, -1, 6, 24, MIN, MAX);
        Houses.full(run(sentence)).leaves("hangs(7)", -9).refuses("hangs(#)", Run.BAD, -1, 24);
    }

    private static void hangsWithoutOthers() {
        Run run = run("16: -9: no other one of its POINT counts").does("station(0)", "station(0)", "point(10, 0)");
        run.does("point(10, 0)", "sight(3, 0, 0, 5, 0)").leaves("hangs(0)", -9);
        run.does("sight(3, 0, 1, 5, 0)").leaves("hangs(#)", -9, 0, 1);
        run.does("sight(3, 1, 0, 5, 0)").leaves("hangs(0)", -9).does("sight(3, 0, 0, 5, 0)").leaves("hangs(0)", 0);
        run.does("falls(3, true)").leaves("hangs(0)", -9).does("leg(0, 1, 0, 1)").leaves("hangs(0)", 2).leaves("hangs(2)", 0);
    }

    private static void hangsNone() {
        Run run = Houses.mixed(run("16: NONE: it doesn't count"));
        run.refuses("hangs(#)", Run.NONE, 3, 5).leaves("hangs(0)", -9);
        Run contrary = plain("16: NONE goes ahead of STATE").does("sight(3, 0, 0, 1, 0)", "sight(3, 0, 0, 9, 0)");
        contrary.does("sight(3, 0, 0, 5, 0)", "falls(2, true)").refuses("hangs(2)", Run.NONE);
    }

    private static void hangsState() {
        Run run = plain("16: STATE: the SPAN is CONTRARY, or would be without it").does("sight(3, 0, 0, 1, 0)");
        run.does("sight(3, 0, 0, 3, 0)").leaves("hangs(#)", 2, 0, 1);
        run.does("sight(3, 0, 0, 4, 0)").refuses("hangs(#)", Run.STATE, 0, 1, 2);
        run.does("falls(0, true)").leaves("hangs(1)", 1).refuses("hangs(0)", Run.NONE);
        Run both = plain("16: STATE: CONTRARY with it and without it").does("sight(3, 0, 0, 1, 0)", "sight(3, 0, 0, 9, 0)");
        both.does("sight(2, 0, 0, 5, 0)").refuses("hangs(#)", Run.STATE, 0, 1, 2);
    }

    private static void hangsAtItsGreatest() {
        Run run = chain("HANGS at its greatest and least", 0, 0);
        run.does("point(999, 0)", "sight(4, 5, 0, 99, 0)", "sight(3, 0, 0, 0, 0)");
        run.asks("foot(0, 0)", 4990).asks("foot(1, 0)", 4990).leaves("hangs(1)", 132).leaves("hangs(0)", 0);
    }

    private static void mayBeArguments() {
        String sentence = "17: BAD: no such STATION, slant, when";
        run(sentence).refuses("mayBe(#, 0, 0)", Run.BAD, 0, -1);
        Run mixed = Houses.mixed(run(sentence));
        mixed.refuses("mayBe(#, 0, 0)", Run.BAD, -1, 4, 6, MIN, MAX);
        mixed.leaves("mayBe(0, #, 0)", 0, -99, 999).refuses("mayBe(0, #, 0)", Run.BAD, -100, 1000, MIN, MAX);
        mixed.leaves("mayBe(0, 999, #)", 0, 0, 40, 2300, 2340);
        mixed.refuses("mayBe(0, 0, #)", Run.BAD, -1, 41, 99, 141, 2341, 2400, -60, -100, MIN, MAX);
    }

    private static void mayBeNone() {
        Run run = Houses.mixed(run("17: BAD: ..; NONE: the STATION has no LEVEL"));
        run.refuses("mayBe(3, #, 0)", Run.NONE, -99, 0, 999).refuses("mayBe(3, 0, #)", Run.NONE, 0, 2340);
        run.refuses("mayBe(3, #, 0)", Run.BAD, -100, 1000).refuses("mayBe(3, 0, #)", Run.BAD, -1, 41, 2400);
    }

    private static void mayBeSharesAFoot() {
        Run run = plain("MAY BE: SPAN shares a foot with what a NOON SIGHT would REACH").does("sight(3, 0, 0, 10, 0)");
        run.leaves("mayBe(0, #, 0)", 1, 4, 5, 10, 15, 16).leaves("mayBe(0, #, 0)", 0, 3, 17, -99, 999);
        run.does("station(0)", "leg(0, 1, 0, 2)").asks("mayBe(1, #, 0)", 1, 2, 18).asks("mayBe(1, #, 0)", 0, 1, 19);
        run.does("mend(0, 0, -50)").asks("mayBe(1, #, 0)", 1, 52, 68).asks("mayBe(1, #, 0)", 0, 51, 69);
        run.reads("bend 8 if hour=23 and heat=40 and kind=2;");
        run.asks("mayBe(0, #, 2340)", 1, 8, 20).asks("mayBe(0, #, 2340)", 0, 7, 21).asks("mayBe(0, #, 2339)", 1, 4, 16);
    }

    private static void mayBeWithoutSpans() {
        Run run = plain("MAY BE: (if they have one, and it is not CONTRARY)").leaves("mayBe(0, 10, 0)", 0);
        run.does("sight(3, 0, 0, 10, 0)").asks("mayBe(0, 10, 0)", 1).does("sight(3, 0, 0, 13, 0)");
        run.leaves("mayBe(0, #, 0)", 0, 10, 11, 12, 13).does("falls(1, true)").asks("mayBe(0, 10, 0)", 1);
        run.does("falls(0, true)").asks("mayBe(0, 10, 0)", 0);
        run("MAY BE: of no POINTS none").does("station(0)").leaves("mayBe(0, 0, 0)", 0);
    }

    private static void mayBeBits() {
        Run run = run("17: MAY BE, as bits").does("station(0)");
        for (int p = 0; p < 8; p++) {
            run.does("point(10, 0)", "sight(3, 0, " + p + ", 10, 0)").asks("mayBe(0, 10, 0)", (2 << p) - 1);
        }
        for (int p = 0; p < 7; p++) {
            run.does("falls(" + p + ", true)");
        }
        run.asks("mayBe(0, 10, 0)", 128);
    }

    private static void nextArguments() {
        String sentence = "18: BAD: no such POINT, KIND";
        run(sentence).does("station(0)").refuses("next(#, 1)", Run.BAD, 0, -1);
        Run mixed = Houses.mixed(run(sentence));
        mixed.leaves("next(0, #)", 0, 1, 2, 3, 4, 5).refuses("next(0, #)", Run.BAD, 0, 6, -1, MIN, MAX);
        mixed.leaves("next(4, 1)", 0).refuses("next(#, 1)", Run.BAD, -1, 5, 8, MIN, MAX);
    }

    private static void nextNone() {
        Run run = run("18: BAD: ..; NONE: no STATION has a LEVEL").does("point(10, 0)");
        run.refuses("next(0, #)", Run.NONE, 1, 2, 3, 4, 5).refuses("next(0, #)", Run.BAD, 0, 6).refuses("next(1, 1)", Run.BAD);
        run.does("station(0)").leaves("next(0, #)", 0, 1, 2, 3, 4, 5);
    }

    private static void nextLeastOfSeveral() {
        Run run = run("NEXT: the least SLACK and DOUBT together, of several the least");
        run.does("station(0)", "station(99)", "station(99)", "point(248, 0)", "point(249, 0)");
        run.leaves("next(#, 4)", 0, 0, 1).does("leg(0, 1, 0, 1)", "leg(0, 2, 0, 1)");
        // of place 248: 3 + 4 from 0, 3 + 2 + 1 from 99; of place 249: 3 + 4 against 3 + 3 + 1
        run.leaves("next(0, 4)", 1).leaves("next(1, 4)", 0).asks("next(0, #)", 0, 1, 2, 3, 5);
        run.does("mend(0, 1, 2)").leaves("next(0, 4)", 2).does("mend(1, 1, 2)").leaves("next(0, 4)", 0);
        Run last = run("NEXT: the last of 6 STATIONS").does("station(0)");
        for (int s = 1; s < 6; s++) {
            last.does("station(" + (s == 5 ? 99 : 0) + ")", "leg(0, " + s + ", 0, 1)");
        }
        last.does("point(950, 0)").leaves("next(0, 4)", 5).leaves("next(0, 1)", 0);
    }
}
