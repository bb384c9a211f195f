/** Runs that fill an object, for refusals to be met in. */
final class Houses {
    private Houses() { }

    /**
     * Something of all there is: 4 stations (0 to 2 have levels, 3 has none), 4 legs, 5 points, 6 sights (3 is of
     * station 3; 5 is false), a law of 2 lines, 19 bytes of a tape, 3 rows (one altered), sheets 0 (bytes), 1
     * (shorts), 2 (longs), shelves 0 (sight 4), 1 (point 2), 2 (a row of shorts), a trace, and another state kept.
     */
    static Run mixed(Run run) {
        run.does("station(10)", "station(40)", "station(99)", "station(5)");
        run.does("leg(0, 1, 12, 3)", "leg(1, 2, -7, 2)", "leg(2, 0, 30, 9)");
        run.does("point(60, 3)", "point(52, 0)", "point(999, 1)", "point(0, 0)");
        run.reads("bend 2; bend 5 if heat > 20;");
        run.does("sight(2, 0, 0, 10, 1220)", "sight(1, 1, 1, 21, 610)", "falls(1, true)", "keep()");
        run.does("masses(1)", "mass(2, 7)", "mend(2, 1, 8)", "mend(2, 0, -99)", "leg(0, 1, 13, 6)", "point(70, 2)");
        run.does("falls(1, false)", "sight(4, 2, 2, 50, 2340)", "sight(3, 3, 1, 4, 0)", "sight(5, 0, 4, -4, 505)");
        run.does("sight(2, 1, 0, 99, 1201)", "falls(5, true)");
        run.reads("bend 7 if away > 30; bend 9 if kind = 4 and not hour < 12;");
        run.does("prove()", "alterRow(1, 1, 77)");
        run.does("sheet(0, 0, 5)", "put(0, 4, -128)", "sheet(1, 1, 8)", "put(1, 0, 10)", "put(1, 1, 1000)");
        run.does("put(1, 2, -99)", "sheet(2, 3, 40)", "put(2, 39, -13)");
        run.does("shelf(0, 0, 4)", "shelf(1, 1, 2)", "shelf(2, 2, 1)", "act(0, 3, 5)");
        return run.feeds("bend 5 if (hour = 3");
    }

    /**
     * As much of all as there may be: 6 stations with levels, 12 legs, 8 points, 24 sights, 8 lines, 200 bytes,
     * 6 rows, 4 sheets of 40, shelves that hold sight 23, point 7 and rows, a trace; and all of that kept.
     */
    static Run full(Run run) {
        for (int s = 0; s < 6; s++) {
            run.does("station(" + 7 * s + ")");
        }
        for (int leg = 0; leg < 12; leg++) {
            run.does("leg(" + leg % 5 + ", " + (leg % 5 + 1) + ", " + (leg - 5) + ", " + (leg % 9 + 1) + ")");
        }
        for (int p = 0; p < 8; p++) {
            run.does("point(" + (100 + 40 * p) + ", " + p + ")");
        }
        for (int k = 0; k < 24; k++) {
            run.does("sight(" + (k % 5 + 1) + ", " + k / 8 + ", " + k % 8 + ", " + 20 + ", " + (100 * k + k) + ")");
        }
        for (int k = 8; k < 24; k++) {
            run.does("falls(" + k + ", true)");
        }
        run.reads("bend 1;bend 2;bend 3;bend 4;bend 5;bend 6;bend 7;bend 8 if hour>9;");
        run.does("keep()", "prove()");
        for (int sheet = 0; sheet < 4; sheet++) {
            run.does("sheet(" + sheet + ", " + sheet + ", 40)", "put(" + sheet + ", 39, 100)");
        }
        run.does("shelf(0, 0, 23)", "shelf(1, 1, 7)", "shelf(2, 2, 2)", "shelf(3, 2, 3)", "act(0, 3, 5)");
        return run.feeds("bend 5 if heat < 9 or heat > 20;" + " ".repeat(160) + "bend 77;");
    }
}
