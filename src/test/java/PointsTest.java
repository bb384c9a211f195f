/** Promises 7 to 18: points, masses, sights, feet, spans and what hangs on them. */
public final class PointsTest {
    private static final int LOW_BAD = -10000001, LOW_NONE = -10000003, LOW_STATE = -10000004;
    private static final Checks CHECKS = new Checks("PointsTest");

    public static void main(String[] args) {
        point();
        masses();
        lean();
        sight();
        sightOf();
        falls();
        foot();
        span();
        hangs();
        mayBe();
        next();
        CHECKS.end();
    }

    private static void point() {
        FarHeights x = new FarHeights();
        CHECKS.due("place -1", x.point(-1, 0), -1);
        CHECKS.due("place 1000", x.point(1000, 0), -1);
        CHECKS.due("mass -1", x.point(0, -1), -1);
        CHECKS.due("mass 100", x.point(0, 100), -1);
        for (int i = 0; i < 8; i++) {
            CHECKS.due("point " + i, x.point(i == 0 ? 0 : 999, i == 0 ? 0 : 99), i);
        }
        CHECKS.due("a ninth point", x.point(1, 1), -2);
        CHECKS.due("a ninth, bad point", x.point(1, 100), -1);
        CHECKS.due("many(2)", x.many(2), 8);
    }

    private static void masses() {
        FarHeights x = new FarHeights();
        CHECKS.due("mass of no point", x.mass(0, 1), -1);
        x.point(5, 17);
        CHECKS.due("mass -1", x.mass(0, -1), -1);
        CHECKS.due("mass 100", x.mass(0, 100), -1);
        CHECKS.due("mass of point -1", x.mass(-1, 1), -1);
        CHECKS.due("mass 99", x.mass(0, 99), 17);
        CHECKS.due("mass 0", x.mass(0, 0), 99);
        CHECKS.due("masses(-1)", x.masses(-1), -1);
        CHECKS.due("masses(3)", x.masses(3), -1);
        CHECKS.due("masses(2)", x.masses(2), 0);
        CHECKS.due("masses(1)", x.masses(1), 2);
        CHECKS.due("masses(0)", x.masses(0), 1);
    }

    private static void lean() {
        FarHeights x = new FarHeights();
        x.station(50);
        x.point(50, 7);
        CHECKS.due("a mass at the station itself", x.stationOf(0, 4), 700);
        x.point(49, 99);
        CHECKS.due("a mass behind it", x.stationOf(0, 4), 700 - 4950);
        x.point(53, 3);
        CHECKS.due("each is cut", x.stationOf(0, 4), 700 - 4950 + 30);
        x.masses(2);
        CHECKS.due("below 0 it is cut towards 0", x.stationOf(0, 4), -1055);
        x.masses(1);
        CHECKS.due("rooted", x.stationOf(0, 4), -2110);
        x.mass(0, 0);
        CHECKS.due("without the near mass", x.stationOf(0, 4), -2460);
    }

    private static void sight() {
        FarHeights x = new FarHeights();
        CHECKS.due("a sight without a station", x.sight(1, 0, 0, 0, 0), -1);
        x.station(0);
        CHECKS.due("a sight without a point", x.sight(1, 0, 0, 0, 0), -1);
        x.point(100, 0);
        CHECKS.due("kind 0", x.sight(0, 0, 0, 0, 0), -1);
        CHECKS.due("kind 6", x.sight(6, 0, 0, 0, 0), -1);
        CHECKS.due("station 1", x.sight(1, 1, 0, 0, 0), -1);
        CHECKS.due("point -1", x.sight(1, 0, -1, 0, 0), -1);
        CHECKS.due("slant -100", x.sight(1, 0, 0, -100, 0), -1);
        CHECKS.due("slant 1000", x.sight(1, 0, 0, 1000, 0), -1);
        CHECKS.due("when -1", x.sight(1, 0, 0, 0, -1), -1);
        CHECKS.due("when -100", x.sight(1, 0, 0, 0, -100), -1);
        CHECKS.due("heat 41", x.sight(1, 0, 0, 0, 2341), -1);
        CHECKS.due("hour 24", x.sight(1, 0, 0, 0, 2400), -1);
        CHECKS.due("no sight came", x.many(3), 0);
        for (int k = 0; k < 24; k++) {
            CHECKS.due("sight " + k, x.sight(k % 5 + 1, 0, 0, k == 0 ? -99 : 999, k == 0 ? 0 : 2340), k);
        }
        CHECKS.due("a twenty-fifth sight", x.sight(1, 0, 0, 0, 0), -2);
        CHECKS.due("a twenty-fifth, bad sight", x.sight(1, 0, 0, 0, 99), -1);
        CHECKS.due("many(3)", x.many(3), 24);
    }

    private static void sightOf() {
        FarHeights x = new FarHeights();
        x.station(0);
        x.station(9);
        x.point(1, 0);
        x.point(178, 0);
        Checks.readText(x, "bend 7;");
        int[] bends = {14, 3, 0, 14 + 16, 3 + 1};
        int[] slacks = {3, 5, 1, 3 + 3, 10};
        for (int kind = 1; kind <= 5; kind++) {
            int k = x.sight(kind, 1, 1, kind - 3, 1220);
            CHECKS.due("kind " + kind, x.sightOf(k, 0), kind);
            CHECKS.due("station of " + kind, x.sightOf(k, 1), 1);
            CHECKS.due("point of " + kind, x.sightOf(k, 2), 1);
            CHECKS.due("slant of " + kind, x.sightOf(k, 3), kind - 3);
            CHECKS.due("told of " + kind, x.sightOf(k, 4), 7);
            CHECKS.due("bend of " + kind, x.sightOf(k, 5), bends[kind - 1]);
            CHECKS.due("slack of " + kind, x.sightOf(k, 6), slacks[kind - 1]);
            CHECKS.due("stands " + kind, x.sightOf(k, 7), 1);
        }
        CHECKS.due("sightOf what 8", x.sightOf(0, 8), LOW_BAD);
        CHECKS.due("sightOf what -1", x.sightOf(0, -1), LOW_BAD);
        CHECKS.due("sightOf 5", x.sightOf(5, 0), LOW_BAD);
        CHECKS.due("sightOf -1", x.sightOf(-1, 0), LOW_BAD);
    }

    private static void falls() {
        FarHeights x = new FarHeights();
        CHECKS.due("falls of none", x.falls(0, true), -1);
        x.station(0);
        x.station(1);
        x.point(100, 0);
        x.sight(1, 0, 0, 0, 0);
        x.sight(1, 1, 0, 0, 0);
        CHECKS.due("it stands already", x.falls(0, false), 0);
        CHECKS.due("it falls", x.falls(0, true), 1);
        CHECKS.due("it fell already", x.falls(0, true), 0);
        CHECKS.due("it is false", x.sightOf(0, 7), 0);
        CHECKS.due("the other one stands", x.sightOf(1, 7), 1);
        CHECKS.due("none counts", x.many(4), 0);
        CHECKS.due("counted none", x.counted(0), 0);
        CHECKS.due("it stands again", x.falls(0, false), 1);
        CHECKS.due("one counts", x.many(4), 1);
        CHECKS.due("counted 0", x.counted(0), 1);
        x.leg(0, 1, 1, 1);
        CHECKS.due("counted both", x.counted(0), 3);
        CHECKS.due("counted of no point", x.counted(1), -1);
        CHECKS.due("falls of 2", x.falls(2, true), -1);
    }

    private static void foot() {
        FarHeights x = new FarHeights();
        x.station(10);
        x.station(20);
        x.station(60);
        x.leg(0, 1, -30, 4);
        x.point(43, 0);
        x.sight(1, 1, 0, -7, 0);
        x.sight(2, 2, 0, 5, 0);
        CHECKS.due("foot", x.foot(0, 0), -30 - 16 + 2);
        CHECKS.due("least", x.foot(0, 1), -44 - 7);
        CHECKS.due("greatest", x.foot(0, 2), -44 + 7);
        CHECKS.due("foot what 3", x.foot(0, 3), LOW_BAD);
        CHECKS.due("foot what -1", x.foot(0, -1), LOW_BAD);
        CHECKS.due("foot of no sight", x.foot(2, 0), LOW_BAD);
        CHECKS.due("foot without a level", x.foot(1, 0), LOW_NONE);
        CHECKS.due("a bad what goes ahead", x.foot(1, 3), LOW_BAD);
        x.falls(0, true);
        CHECKS.due("foot of a false sight", x.foot(0, 0), -44);
        x.mass(0, 99);
        CHECKS.due("lean of 18 at 1", x.stationOf(1, 4), 18);
        CHECKS.due("foot with lean", x.foot(0, 0), -30 - 57 + 2);
        Checks.readText(x, "bend 3 if away = 23;");
        CHECKS.due("foot with bend", x.foot(0, 0), -30 - 71 + 2);
    }

    private static void span() {
        FarHeights x = new FarHeights();
        x.station(0);
        CHECKS.due("span of no point", x.span(0, 0), LOW_BAD);
        x.point(100, 0);
        CHECKS.due("span what 2", x.span(0, 2), LOW_BAD);
        CHECKS.due("span what -1", x.span(0, -1), LOW_BAD);
        CHECKS.due("span without sights", x.span(0, 0), LOW_NONE);
        x.sight(2, 0, 0, -99, 0);
        CHECKS.due("low", x.span(0, 0), -945);
        CHECKS.due("high", x.span(0, 1), -935);
        x.sight(5, 0, 0, -98, 0);
        CHECKS.due("the hidden one reaches farther", x.foot(1, 1), -950);
        CHECKS.due("low of both", x.span(0, 0), -945);
        CHECKS.due("high of both", x.span(0, 1), -935);
        x.sight(3, 0, 0, -98, 0);
        CHECKS.due("contrary but for a foot", x.foot(2, 1), -931);
        CHECKS.due("contrary", x.span(0, 0), LOW_STATE);
        x.falls(0, true);
        CHECKS.due("low without it", x.span(0, 0), -931);
        CHECKS.due("high without it", x.span(0, 1), -930);
        x.falls(1, true);
        x.falls(2, true);
        CHECKS.due("span of false sights", x.span(0, 1), LOW_NONE);
    }

    private static void hangs() {
        FarHeights x = new FarHeights();
        x.station(0);
        x.station(1);
        x.point(100, 0);
        x.point(200, 0);
        CHECKS.due("hangs of none", x.hangs(0), -1);
        x.sight(2, 0, 0, 0, 0);
        x.sight(1, 0, 1, 0, 0);
        x.sight(1, 1, 0, 0, 0);
        CHECKS.due("no other counts", x.hangs(0), -9);
        CHECKS.due("it doesn't count: no level", x.hangs(2), -3);
        x.sight(3, 0, 0, 0, 0);
        CHECKS.due("the narrow one", x.hangs(3), 8);
        CHECKS.due("the wide one", x.hangs(0), 0);
        x.falls(0, true);
        CHECKS.due("it doesn't count: false", x.hangs(0), -3);
        CHECKS.due("no other counts any more", x.hangs(3), -9);
        x.falls(0, false);
        x.sight(3, 0, 0, 9, 0);
        CHECKS.due("contrary", x.hangs(0), -4);
        CHECKS.due("contrary, but not without it", x.hangs(4), -4);
        CHECKS.due("hangs of -1", x.hangs(-1), -1);
    }

    private static void mayBe() {
        FarHeights x = new FarHeights();
        CHECKS.due("no such station", x.mayBe(0, 0, 0), -1);
        x.station(0);
        x.station(0);
        CHECKS.due("slant -100", x.mayBe(0, -100, 0), -1);
        CHECKS.due("when 2341", x.mayBe(0, 0, 2341), -1);
        CHECKS.due("bad goes ahead", x.mayBe(1, 1000, 0), -1);
        CHECKS.due("no level", x.mayBe(1, 0, 0), -3);
        CHECKS.due("no points", x.mayBe(0, 0, 0), 0);
        x.point(100, 0);
        x.point(200, 0);
        x.point(10, 0);
        x.sight(2, 0, 0, 10, 0);
        x.sight(2, 0, 2, 10, 0);
        CHECKS.due("the same slant", x.mayBe(0, 10, 0), 5);
        CHECKS.due("10 feet more, so that just a foot is shared", x.mayBe(0, 11, 0), 5);
        CHECKS.due("20 feet more", x.mayBe(0, 12, 0), 4);
        CHECKS.due("10 feet less", x.mayBe(0, 9, 0), 5);
        CHECKS.due("20 feet less", x.mayBe(0, 8, 0), 4);
        x.sight(2, 0, 2, 99, 0);
        CHECKS.due("contrary ones are out", x.mayBe(0, 10, 0), 1);
        Checks.readText(x, "bend 8 if hour = 3 and kind = 2;");
        CHECKS.due("bent at its hour", x.mayBe(0, 14, 300), 1);
        CHECKS.due("not at another", x.mayBe(0, 14, 400), 0);
    }

    private static void next() {
        FarHeights x = new FarHeights();
        CHECKS.due("no such point", x.next(0, 1), -1);
        x.point(500, 0);
        CHECKS.due("no station", x.next(0, 1), -3);
        CHECKS.due("kind 0", x.next(0, 0), -1);
        CHECKS.due("kind 6", x.next(0, 6), -1);
        x.station(0);
        x.station(99);
        CHECKS.due("far, without a level", x.next(0, 4), 0);
        x.leg(0, 1, 0, 2);
        CHECKS.due("far: 13 and 0 against 11 and 2", x.next(0, 4), 0);
        x.mend(0, 1, 1);
        CHECKS.due("far: 13 and 0 against 11 and 1", x.next(0, 4), 1);
        CHECKS.due("noon", x.next(0, 2), 0);
    }
}
