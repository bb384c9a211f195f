/** Promises 37 to 39: how many, keep and back. */
public final class KeptTest {
    private static final Checks CHECKS = new Checks("KeptTest");

    public static void main(String[] args) {
        many();
        keptAndBack();
        notKept();
        keptLatest();
        CHECKS.end();
    }

    private static FarHeights filled() {
        FarHeights x = new FarHeights();
        x.station(0);
        x.station(10);
        x.station(20);
        x.leg(0, 1, 7, 2);
        x.leg(0, 1, 8, 3);
        x.point(100, 50);
        x.point(200, 60);
        x.point(300, 60);
        x.point(300, 60);
        x.masses(1);
        for (int i = 0; i < 5; i++) {
            x.sight(1 + i, i % 3, 0, 10 * i, 1220);
        }
        x.falls(3, true);
        Checks.readText(x, "bend 4; bend 9 if kind = 1; bend 6 if kind = 2 and heat > 19;");
        x.prove();
        x.feed(0, 8);
        x.shelf(0, 0, 0);
        x.act(0, 1, 1);
        return x;
    }

    private static void many() {
        FarHeights x = filled();
        int[] want = {3, 2, 4, 5, 3, 3, 2, 8, 3};
        for (int what = 0; what < want.length; what++) {
            CHECKS.due("many(" + what + ")", x.many(what), want[what]);
        }
        CHECKS.due("many(9)", x.many(9), -1);
        CHECKS.due("many(-1)", x.many(-1), -1);
    }

    private static void keptAndBack() {
        FarHeights x = filled();
        CHECKS.due("nothing is kept", x.back(), -3);
        int told = x.sightOf(1, 4);
        int foot = x.foot(1, 1);
        CHECKS.due("keep()", x.keep(), 1);
        x.station(50);
        x.mend(0, 0, 70);
        x.mend(0, 1, 9);
        x.leg(1, 2, 1, 1);
        x.mass(0, 99);
        x.masses(2);
        x.point(400, 1);
        x.sight(1, 0, 0, 1, 0);
        x.falls(0, true);
        x.falls(3, false);
        x.read();
        Checks.readText(x, "bend 1; bend 2; bend 3; bend 4;");
        for (int i = 0; i < 2; i++) {
            CHECKS.due("back()", x.back(), 1);
            int[] want = {3, 2, 4, 5, 3, 3, 2};
            for (int what = 0; what < want.length; what++) {
                CHECKS.due("many(" + what + ") of what was kept", x.many(what), want[what]);
            }
            CHECKS.due("told of what was kept", x.sightOf(1, 4), told);
            CHECKS.due("foot of what was kept", x.foot(1, 1), foot);
            CHECKS.due("level of what was kept", x.stationOf(1, 0), 7);
            CHECKS.due("way of what was kept", x.stationOf(2, 0), -10000003);
            CHECKS.due("sight 0 stands", x.sightOf(0, 7), 1);
            CHECKS.due("sight 3 is false", x.sightOf(3, 7), 0);
            CHECKS.due("masses of what was kept", x.masses(0), 1);
            CHECKS.due("mass of what was kept", x.mass(0, 3), 50);
            x.mend(0, 0, 9);
            Checks.readText(x, "bend 1;");
        }
        CHECKS.due("back() once more", x.back(), 1);
        CHECKS.due("a new sight stands, where a false one was", newSightStands(), 1);
    }

    private static int newSightStands() {
        FarHeights x = new FarHeights();
        x.station(0);
        x.point(1, 1);
        x.keep();
        x.sight(1, 0, 0, 0, 0);
        x.falls(0, true);
        x.back();
        x.sight(1, 0, 0, 0, 0);
        return x.sightOf(0, 7);
    }

    private static void notKept() {
        FarHeights x = filled();
        x.sheet(2, 2, 5);
        x.put(2, 3, 77);
        x.keep();
        x.put(2, 3, 78);
        x.alterRow(1, 1, 1234);
        x.feed(0, 5);
        x.shelf(0, 1, 2);
        x.act(0, 0, 1);
        x.back();
        CHECKS.due("the sheet", x.item(2, 2, 3), 78);
        CHECKS.due("the row", x.row(1, 1), 1234);
        CHECKS.due("the tape", x.many(7), 13);
        CHECKS.due("the shelf", x.taken(0, 6), 2);
        CHECKS.due("the trace", x.trace(0), 70);
    }

    private static void keptLatest() {
        FarHeights x = new FarHeights();
        x.keep();
        x.station(1);
        x.keep();
        x.station(2);
        x.back();
        CHECKS.due("the latest", x.many(0), 1);
        x.station(2);
        x.station(3);
        CHECKS.due("keep()", x.keep(), 1);
        x.back();
        CHECKS.due("the latest again", x.many(0), 3);
    }
}
