/** The boundary sentences about ROWS and THE READER: part 3 of the Terms, promises 25 to 28. */
public final class EdgesRowsTest {
    private static final int MIN = Run.MIN, MAX = Run.MAX;
    private static final Checks CHECKS = new Checks("EdgesRowsTest");

    public static void main(String[] args) {
        proveOfNone();
        proveOfAll();
        proveOfThoseThatHaveThem();
        proveAnew();
        rowNumber();
        rowWhat();
        alterRowNumber();
        alterRowWhat();
        alterRowAnyNumber();
        judgeOfNone();
        judgeStation();
        judgeAboveTheRowAhead();
        judgeLevel();
        judgeDoubt();
        judgeTheFirst();
        judgeStationInNone();
        judgeWrongRowAheadOf22();
        judgeByWhatIsNow();
        CHECKS.end();
    }

    private static Run run(String sentence) {
        return new Run(CHECKS, sentence);
    }

    /** Six stations; those with levels are 0, 1, 3, 5: (0, 0), (5, 2), (-4, 5), (95, 11). */
    private static Run four(String sentence) {
        Run run = run(sentence);
        for (int s = 0; s < 6; s++) {
            run.does("station(" + s + ")");
        }
        return run.does("leg(0, 1, 5, 2)", "leg(1, 3, -9, 3)", "leg(5, 3, -99, 6)", "leg(2, 4, 1, 1)");
    }

    private static void proveOfNone() {
        Run run = run("25: ROWS of STATIONS: how many: of none").leaves("prove()", 0).then("prove()", 0).asks("many(6)", 0);
        run.refuses("row(0, 0)", Run.LOW_BAD).leaves("judge()", 0);
        Run gone = run("25: ROWS of none, where there were some").does("keep()", "station(0)", "prove()", "back()");
        gone.asks("many(6)", 1).then("prove()", 0).asks("many(6)", 0).refuses("row(0, 0)", Run.LOW_BAD);
    }

    private static void proveOfAll() {
        Run run = Houses.full(run("25: ROWS of 6 STATIONS, by numbers"));
        run.then("prove()", 6).asks("many(6)", 6);
        for (int s = 0; s < 6; s++) {
            run.asks("row(" + s + ", 0)", s);
        }
        run.refuses("row(6, #)", Run.LOW_BAD, 0, 1, 2).leaves("judge()", 0);
    }

    private static void proveOfThoseThatHaveThem() {
        Run run = four("ROWS: (STATION, LEVEL, DOUBT) of all STATIONS that have them, by numbers").then("prove()", 4);
        int[] want = {0, 0, 0, 1, 5, 2, 3, -4, 5, 5, 95, 11};
        for (int i = 0; i < want.length; i++) {
            run.leaves("row(" + i / 3 + ", " + i % 3 + ")", want[i]);
        }
        run.refuses("row(4, #)", Run.LOW_BAD, 0, 1, 2).leaves("judge()", 0);
        Run one = run("ROWS of THE SEA alone").does("station(9)", "station(9)").then("prove()", 1);
        one.asks("row(0, #)", 0, 0, 1, 2).refuses("row(1, 0)", Run.LOW_BAD);
    }

    private static void proveAnew() {
        Run run = four("25: ROWS stay as they were till prove()").does("prove()", "mend(0, 0, 6)", "leg(0, 2, 1, 1)");
        run.asks("row(1, 1)", 5).asks("many(6)", 4).asks("row(2, 0)", 3).then("prove()", 6).asks("row(1, 1)", 6);
        run.asks("row(2, 0)", 2).asks("row(4, 0)", 4).does("alterRow(5, 1, 7)", "prove()").asks("row(5, 1)", 96);
        run.leaves("prove()", 6);
    }

    private static void rowNumber() {
        String sentence = "26: of ROW i: LOW + BAD: there is none such";
        four(sentence).refuses("row(#, 0)", Run.LOW_BAD, 0, 1, -1, MIN, MAX);
        Run run = four(sentence).does("prove()").asks("row(0, 0)", 0).asks("row(3, 0)", 5);
        run.refuses("row(#, 0)", Run.LOW_BAD, -1, 4, 5, 6, MIN, MAX).refuses("row(#, 2)", Run.LOW_BAD, -1, 4, MIN, MAX);
        // a place in a row of rows that would wrap back to one that there is
        run.refuses("row(#, 1)", Run.LOW_BAD, 1431655765, 1431655766, -1431655765);
    }

    private static void rowWhat() {
        Run run = four("26: what = 0 STATION, 1 LEVEL, 2 DOUBT: LOW + BAD: another what").does("prove()");
        run.leaves("row(2, 0)", 3).leaves("row(2, 1)", -4).leaves("row(2, 2)", 5);
        run.refuses("row(2, #)", Run.LOW_BAD, -1, 3, -3, 6, MIN, MAX).refuses("row(0, #)", Run.LOW_BAD, -1, 3, MIN, MAX);
        run.refuses("row(3, #)", Run.LOW_BAD, -1, 3, MIN, MAX);
    }

    private static void alterRowNumber() {
        String sentence = "27: LOW + BAD likewise: there is none such";
        four(sentence).refuses("alterRow(#, 0, 0)", Run.LOW_BAD, 0, 1, -1, MIN, MAX);
        Run run = four(sentence).does("prove()").asks("alterRow(0, 1, 9)", 0).asks("alterRow(3, 1, 9)", 95);
        run.refuses("alterRow(#, 0, 9)", Run.LOW_BAD, -1, 4, 5, 6, MIN, MAX);
        run.refuses("alterRow(#, 1, 9)", Run.LOW_BAD, 1431655765, 1431655766, -1431655765);
    }

    private static void alterRowWhat() {
        Run run = four("27: LOW + BAD likewise: another what").does("prove()");
        run.asks("alterRow(2, 0, 9)", 3).asks("alterRow(2, 1, 9)", -4).asks("alterRow(2, 2, 9)", 5);
        run.refuses("alterRow(2, #, 9)", Run.LOW_BAD, -1, 3, -3, 6, MIN, MAX);
        run.refuses("alterRow(0, #, 9)", Run.LOW_BAD, -1, 3, MIN, MAX).refuses("alterRow(3, #, 9)", Run.LOW_BAD, -1, 3);
    }

    private static void alterRowAnyNumber() {
        Run run = four("27: it becomes v: what it was: any int").does("prove()");
        run.then("alterRow(1, 1, " + MAX + ")", 5).asks("row(1, 1)", MAX).then("alterRow(1, 1, " + MIN + ")", MAX);
        run.asks("row(1, 1)", MIN).then("alterRow(1, 1, " + Run.LOW_BAD + ")", MIN).asks("row(1, 1)", Run.LOW_BAD);
        run.then("alterRow(1, 1, 5)", Run.LOW_BAD).leaves("alterRow(1, 1, 5)", 5).asks("judge()", 0);
        run.asks("stationOf(1, 0)", 5).asks("row(0, 1)", 0).asks("row(1, 0)", 1).asks("row(1, 2)", 2);
    }

    private static void judgeOfNone() {
        run("28: no ROWS, no STATION: all is right").leaves("judge()", 0);
        run("28: 22: no ROWS, but a STATION").does("station(0)").leaves("judge()", 22);
        Run gone = run("28: ROWS of STATIONS that are gone").does("keep()", "station(0)", "prove()", "back()");
        gone.leaves("judge()", 1);
    }

    private static void judgeStation() {
        Run run = four("THE READER: right is one whose STATION has a LEVEL").does("prove()").leaves("judge()", 0);
        int[] others = {-1, 2, 4, 6, 7, MIN, MAX};
        for (int other : others) {
            run.asksBehind("alterRow(3, 0, " + other + ")", "judge()", 4);
            run.asksBehind("alterRow(0, 0, " + other + ")", "judge()", 1);
        }
    }

    private static void judgeAboveTheRowAhead() {
        Run run = four("THE READER: and is above that of the ROW ahead").does("prove()");
        // row 2 becomes row 1 once more
        Run same = four("THE READER: one as the ROW ahead is not above it").does("prove()", "alterRow(2, 0, 1)");
        same.does("alterRow(2, 1, 5)", "alterRow(2, 2, 2)").leaves("judge()", 3);
        Run first = four("THE READER: the first ROW once more").does("prove()", "alterRow(1, 0, 0)", "alterRow(1, 1, 0)");
        first.does("alterRow(1, 2, 0)").leaves("judge()", 2);
        // rows 1 and 2 change places
        Run turned = four("THE READER: one below the ROW ahead is not right").does("prove()", "alterRow(1, 0, 3)");
        turned.does("alterRow(1, 1, -4)", "alterRow(1, 2, 5)", "alterRow(2, 0, 1)", "alterRow(2, 1, 5)", "alterRow(2, 2, 2)");
        turned.leaves("judge()", 3);
        run.asks("judge()", 0);
        // the last row's numbers in row 2: right, but the last one is not above
        Run last = four("THE READER: a ROW that is right, ahead of its like").does("prove()", "alterRow(2, 0, 5)");
        last.does("alterRow(2, 1, 95)", "alterRow(2, 2, 11)").leaves("judge()", 4);
    }

    private static void judgeLevel() {
        Run run = four("THE READER: whose LEVEL is its own").does("prove()");
        int[][] levels = {{0, 0}, {1, 5}, {2, -4}, {3, 95}};
        for (int[] one : levels) {
            int[] others = {one[1] - 1, one[1] + 1, MIN, MAX, -one[1] - 7};
            for (int other : others) {
                run.asksBehind("alterRow(" + one[0] + ", 1, " + other + ")", "judge()", one[0] + 1);
            }
            run.asksBehind("alterRow(" + one[0] + ", 1, " + one[1] + ")", "judge()", 0);
        }
    }

    private static void judgeDoubt() {
        Run run = four("THE READER: whose DOUBT is its own").does("prove()");
        int[][] doubts = {{0, 0}, {1, 2}, {2, 5}, {3, 11}};
        for (int[] one : doubts) {
            int[] others = {one[1] - 1, one[1] + 1, MIN, MAX};
            for (int other : others) {
                run.asksBehind("alterRow(" + one[0] + ", 2, " + other + ")", "judge()", one[0] + 1);
            }
            run.asksBehind("alterRow(" + one[0] + ", 2, " + one[1] + ")", "judge()", 0);
        }
    }

    private static void judgeTheFirst() {
        Run run = Houses.full(run("28: else the first ROW that isn't, and 1 more"));
        run.leaves("judge()", 0);
        for (int i = 5; i >= 0; i--) {
            run.does("alterRow(" + i + ", 2, 99)").leaves("judge()", i + 1);
        }
    }

    private static void judgeStationInNone() {
        Run run = four("THE READER: some STATION that has a LEVEL is in none: 22").does("prove()").leaves("judge()", 0);
        run.does("leg(4, 0, 0, 9)").leaves("judge()", 22).does("prove()").leaves("judge()", 0);
        Run more = run("28: 22: a STATION came, and then a way to it").does("station(0)", "prove()", "station(1)");
        more.leaves("judge()", 0).does("leg(1, 0, 4, 4)").leaves("judge()", 22).then("prove()", 2).leaves("judge()", 0);
    }

    private static void judgeWrongRowAheadOf22() {
        Run run = four("28: the first ROW that isn't right goes ahead of 22").does("prove()", "leg(4, 0, 0, 9)");
        run.asks("judge()", 22).does("alterRow(3, 2, 12)").leaves("judge()", 4).does("alterRow(0, 1, 1)").leaves("judge()", 1);
    }

    private static void judgeByWhatIsNow() {
        Run run = four("THE READER: by LEVELS and DOUBTS as they are now").does("prove()", "mend(2, 1, 7)");
        run.leaves("judge()", 4).does("mend(2, 1, 6)").leaves("judge()", 0).does("mend(0, 0, 4)").leaves("judge()", 2);
        run.does("mend(1, 0, -8)", "alterRow(1, 1, 4)").leaves("judge()", 0);
    }
}
