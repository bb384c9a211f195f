/** Promises 25 to 28: rows that prove levels, and who reads them. */
public final class RowsTest {
    private static final int LOW_BAD = -10000001;
    private static final Checks CHECKS = new Checks("RowsTest");

    public static void main(String[] args) {
        rows();
        judge();
        judgeWithoutRows();
        CHECKS.end();
    }

    private static FarHeights threeOfFour() {
        FarHeights x = new FarHeights();
        for (int i = 0; i < 4; i++) {
            x.station(i);
        }
        x.leg(0, 1, 5, 2);
        x.leg(1, 3, -9, 3);
        return x;
    }

    private static void rows() {
        FarHeights x = threeOfFour();
        CHECKS.due("row ahead of prove()", x.row(0, 0), LOW_BAD);
        CHECKS.due("alterRow ahead of prove()", x.alterRow(0, 0, 1), LOW_BAD);
        CHECKS.due("prove()", x.prove(), 3);
        CHECKS.due("many(6)", x.many(6), 3);
        int[] want = {0, 0, 0, 1, 5, 2, 3, -4, 5};
        for (int i = 0; i < want.length; i++) {
            CHECKS.due("row part " + i, x.row(i / 3, i % 3), want[i]);
        }
        CHECKS.due("row 3", x.row(3, 0), LOW_BAD);
        CHECKS.due("row -1", x.row(-1, 0), LOW_BAD);
        CHECKS.due("what 3", x.row(0, 3), LOW_BAD);
        CHECKS.due("what -1", x.row(1, -1), LOW_BAD);
        CHECKS.due("alterRow 3", x.alterRow(3, 0, 0), LOW_BAD);
        CHECKS.due("alterRow what 3", x.alterRow(0, 3, 0), LOW_BAD);
        CHECKS.due("alterRow", x.alterRow(2, 1, Integer.MIN_VALUE), -4);
        CHECKS.due("alterRow again", x.alterRow(2, 1, 7), Integer.MIN_VALUE);
        x.mend(0, 0, 50);
        CHECKS.due("rows stay as they were", x.row(1, 1), 5);
        CHECKS.due("prove() anew", x.prove(), 3);
        CHECKS.due("the new level", x.row(1, 1), 50);
        CHECKS.due("the altered row is gone", x.row(2, 1), 41);
    }

    private static void altered(String what, int row, int part, int v, int want) {
        FarHeights x = threeOfFour();
        x.prove();
        CHECKS.due("judge() of rows as proved", x.judge(), 0);
        x.alterRow(row, part, v);
        CHECKS.due("judge() of " + what, x.judge(), want);
    }

    private static void judge() {
        altered("station -1", 0, 0, -1, 1);
        altered("station 4", 2, 0, 4, 3);
        altered("a station without a level", 2, 0, 2, 3);
        altered("the station of the row ahead", 2, 0, 1, 3);
        altered("another station", 0, 0, 1, 1);
        altered("another level", 1, 1, 6, 2);
        altered("another doubt", 1, 2, 3, 2);
        altered("the same", 1, 2, 2, 0);
        FarHeights x = threeOfFour();
        x.prove();
        x.leg(3, 2, 1, 9);
        CHECKS.due("a station that is in none", x.judge(), 22);
        x.alterRow(0, 1, 1);
        CHECKS.due("a wrong row goes ahead of that", x.judge(), 1);
        x.alterRow(1, 1, 1);
        CHECKS.due("the first wrong row", x.judge(), 1);
        FarHeights y = threeOfFour();
        y.leg(0, 2, 0, 1);
        y.prove();
        y.alterRow(1, 0, 2);
        y.alterRow(1, 1, 0);
        y.alterRow(1, 2, 1);
        CHECKS.due("row 1 is a right row of station 2; row 2 is no more above", y.judge(), 3);
        FarHeights twice = threeOfFour();
        twice.prove();
        for (int what = 0; what < 3; what++) {
            twice.alterRow(1, what, 0);
        }
        CHECKS.due("the first row once more", twice.judge(), 2);
        FarHeights z = threeOfFour();
        z.prove();
        z.mend(0, 1, 9);
        CHECKS.due("rows of doubts that were", z.judge(), 2);
    }

    private static void judgeWithoutRows() {
        FarHeights x = new FarHeights();
        CHECKS.due("no station", x.judge(), 0);
        CHECKS.due("prove() of none", x.prove(), 0);
        x.keep();
        x.station(0);
        CHECKS.due("a station, no row", x.judge(), 22);
        CHECKS.due("prove()", x.prove(), 1);
        CHECKS.due("judge()", x.judge(), 0);
        x.back();
        CHECKS.due("rows stay when all goes back", x.many(6), 1);
        CHECKS.due("their stations don't", x.judge(), 1);
    }
}
