/** Promises 1 to 6: a new object, stations, legs, levels, the leg to measure again. */
public final class StationsTest {
    private static final int LOW_BAD = -10000001, LOW_NONE = -10000003;
    private static final Checks CHECKS = new Checks("StationsTest");

    public static void main(String[] args) {
        newObject();
        station();
        leg();
        mend();
        levels();
        lastLegIsTheLeast();
        again();
        CHECKS.end();
    }

    private static void newObject() {
        FarHeights x = new FarHeights();
        for (int what = 0; what <= 8; what++) {
            CHECKS.due("many(" + what + ") of a new object", x.many(what), 0);
        }
        CHECKS.due("masses(0) of a new object", x.masses(0), 0);
        CHECKS.due("back() of a new object", x.back(), FarHeights.NONE);
        CHECKS.due("trace(0) of a new object", x.trace(0), FarHeights.NONE);
        CHECKS.due("judge() of a new object", x.judge(), 0);
        CHECKS.due("again() of a new object", x.again(), FarHeights.NONE);
        CHECKS.due("stationOf(0, 0) of a new object", x.stationOf(0, 0), LOW_BAD);
        CHECKS.due("BAD", FarHeights.BAD, -1);
        CHECKS.due("FULL", FarHeights.FULL, -2);
        CHECKS.due("NONE", FarHeights.NONE, -3);
        CHECKS.due("STATE", FarHeights.STATE, -4);
        CHECKS.due("LOW", FarHeights.LOW, -10000000);
    }

    private static void station() {
        FarHeights x = new FarHeights();
        CHECKS.due("station(-1)", x.station(-1), -1);
        CHECKS.due("station(100)", x.station(100), -1);
        int[] places = {0, 99, 5, 5, 50, 7};
        for (int i = 0; i < places.length; i++) {
            CHECKS.due("station " + i, x.station(places[i]), i);
        }
        CHECKS.due("a seventh station", x.station(1), -2);
        CHECKS.due("a seventh, bad station", x.station(100), -1);
        CHECKS.due("many(0)", x.many(0), 6);
        for (int i = 0; i < places.length; i++) {
            CHECKS.due("place of " + i, x.stationOf(i, 3), places[i]);
        }
    }

    private static void leg() {
        FarHeights x = new FarHeights();
        x.station(0);
        CHECKS.due("leg to no station", x.leg(0, 1, 0, 1), -1);
        x.station(9);
        CHECKS.due("leg from below", x.leg(-1, 1, 0, 1), -1);
        CHECKS.due("leg to below", x.leg(0, -1, 0, 1), -1);
        CHECKS.due("leg of one station", x.leg(1, 1, 0, 1), -1);
        CHECKS.due("rise 100", x.leg(0, 1, 100, 1), -1);
        CHECKS.due("rise -100", x.leg(0, 1, -100, 1), -1);
        CHECKS.due("slip 0", x.leg(0, 1, 0, 0), -1);
        CHECKS.due("slip 10", x.leg(0, 1, 0, 10), -1);
        CHECKS.due("rise 99, slip 9", x.leg(0, 1, 99, 9), 0);
        CHECKS.due("rise -99, slip 1", x.leg(1, 0, -99, 1), 1);
        for (int i = 2; i < 12; i++) {
            CHECKS.due("leg " + i, x.leg(0, 1, i, 5), i);
        }
        CHECKS.due("a thirteenth leg", x.leg(0, 1, 0, 1), -2);
        CHECKS.due("a thirteenth, bad leg", x.leg(0, 0, 0, 1), -1);
        CHECKS.due("many(1)", x.many(1), 12);
        CHECKS.due("level over leg 1, gone backwards", x.stationOf(1, 0), 99);
        CHECKS.due("last leg 1", x.stationOf(1, 2), 1);
    }

    private static void mend() {
        FarHeights x = new FarHeights();
        x.station(0);
        x.station(9);
        CHECKS.due("mend of no leg", x.mend(0, 0, 1), LOW_BAD);
        x.leg(0, 1, -7, 4);
        CHECKS.due("mend leg -1", x.mend(-1, 0, 1), LOW_BAD);
        CHECKS.due("mend leg 1", x.mend(1, 0, 1), LOW_BAD);
        CHECKS.due("mend what 2", x.mend(0, 2, 1), LOW_BAD);
        CHECKS.due("mend what -1", x.mend(0, -1, 1), LOW_BAD);
        CHECKS.due("mend rise 100", x.mend(0, 0, 100), LOW_BAD);
        CHECKS.due("mend slip 0", x.mend(0, 1, 0), LOW_BAD);
        CHECKS.due("mend slip 10", x.mend(0, 1, 10), LOW_BAD);
        CHECKS.due("mend slip -5", x.mend(0, 1, -5), LOW_BAD);
        CHECKS.due("level as it was", x.stationOf(1, 0), -7);
        CHECKS.due("mend rise -99", x.mend(0, 0, -99), -7);
        CHECKS.due("mend rise 99", x.mend(0, 0, 99), -99);
        CHECKS.due("mend slip 9", x.mend(0, 1, 9), 4);
        CHECKS.due("mend slip 1", x.mend(0, 1, 1), 9);
        CHECKS.due("level mended", x.stationOf(1, 0), 99);
        CHECKS.due("doubt mended", x.stationOf(1, 1), 1);
    }

    private static void levels() {
        FarHeights x = new FarHeights();
        x.station(10);
        x.station(20);
        x.station(30);
        CHECKS.due("level of the sea", x.stationOf(0, 0), 0);
        CHECKS.due("doubt of the sea", x.stationOf(0, 1), 0);
        CHECKS.due("last leg of the sea", x.stationOf(0, 2), -9);
        for (int what = 0; what <= 2; what++) {
            CHECKS.due("without a way, " + what, x.stationOf(2, what), LOW_NONE);
        }
        CHECKS.due("lean without a way", x.stationOf(2, 4), 0);
        CHECKS.due("stationOf what 5", x.stationOf(0, 5), LOW_BAD);
        CHECKS.due("stationOf what -1", x.stationOf(0, -1), LOW_BAD);
        CHECKS.due("stationOf 3", x.stationOf(3, 0), LOW_BAD);
        x.leg(1, 2, 5, 3);
        CHECKS.due("a leg that the sea has no way to", x.stationOf(2, 0), LOW_NONE);
        x.leg(1, 0, 40, 2);
        CHECKS.due("level of 1, gone backwards", x.stationOf(1, 0), -40);
        CHECKS.due("level of 2", x.stationOf(2, 0), -35);
        CHECKS.due("doubt of 2", x.stationOf(2, 1), 5);
        CHECKS.due("last leg of 2", x.stationOf(2, 2), 0);
        x.leg(0, 2, 60, 5);
        CHECKS.due("as good a way over a later leg", x.stationOf(2, 0), -35);
        x.mend(2, 1, 4);
        CHECKS.due("a better way", x.stationOf(2, 0), 60);
        CHECKS.due("last leg of the better way", x.stationOf(2, 2), 2);
    }

    /** Of as good ways the least last leg counts, even if the way to it came later. */
    private static void lastLegIsTheLeast() {
        FarHeights x = new FarHeights();
        for (int i = 0; i < 4; i++) {
            x.station(i);
        }
        x.leg(3, 2, 10, 1);
        x.leg(1, 2, 20, 2);
        x.leg(0, 1, 1, 1);
        x.leg(0, 3, 2, 2);
        CHECKS.due("least last leg", x.stationOf(2, 2), 0);
        CHECKS.due("its level", x.stationOf(2, 0), 12);
        CHECKS.due("its doubt", x.stationOf(2, 1), 3);
    }

    private static void again() {
        FarHeights x = new FarHeights();
        for (int i = 0; i < 5; i++) {
            x.station(i);
        }
        x.leg(3, 4, 0, 9);
        CHECKS.due("the only leg, which helps nobody", x.again(), 0);
        x.leg(0, 1, 0, 4);
        CHECKS.due("the leg that helps", x.again(), 1);
        x.leg(1, 2, 0, 6);
        CHECKS.due("6 for both against 5 for one", x.again(), 1);
        x.mend(2, 1, 9);
        CHECKS.due("6 for both against 8 for one", x.again(), 2);
        x.mend(2, 1, 7);
        CHECKS.due("6 for both against 6 for one: the least", x.again(), 1);
        CHECKS.due("nothing was changed", x.stationOf(2, 1), 11);
    }
}
