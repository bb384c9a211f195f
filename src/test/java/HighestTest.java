/** Promises 19 to 22: behind, the highest, numbers that are said and believed. */
public final class HighestTest {
    private static final int LOW_BAD = -10000001, LOW_NONE = -10000003, LOW_STATE = -10000004;
    private static final Checks CHECKS = new Checks("HighestTest");

    public static void main(String[] args) {
        behind();
        behindAtTheEdges();
        behindOfGreatHeights();
        highest();
        highestInOneWay();
        highestOfMany();
        said();
        believed();
        CHECKS.end();
    }

    private static void behind() {
        FarHeights x = new FarHeights();
        CHECKS.due("no station", x.behind(0, 0), -1);
        x.station(50);
        x.station(50);
        CHECKS.due("no point", x.behind(0, 0), -1);
        x.point(60, 0);
        x.point(70, 0);
        x.point(40, 0);
        x.point(80, 0);
        x.point(70, 0);
        CHECKS.due("no level", x.behind(1, 1), -3);
        CHECKS.due("bad goes ahead", x.behind(1, 5), -1);
        x.sight(3, 0, 0, 99, 0);
        CHECKS.due("q without a span", x.behind(0, 1), 0);
        x.sight(3, 0, 1, 99, 0);
        CHECKS.due("98 * 20 is not more than 201 * 10", x.behind(0, 1), 0);
        x.sight(3, 0, 0, 99, 0);
        x.sight(3, 0, 2, 99, 0);
        x.sight(3, 0, 4, 50, 0);
        CHECKS.due("a lower one behind it", x.behind(0, 4), 1);
        CHECKS.due("not the other way", x.behind(0, 0), 0);
        CHECKS.due("what lies on the other side", x.behind(0, 2), 0);
        x.sight(3, 0, 3, 1, 0);
        CHECKS.due("behind three", x.behind(0, 3), 19);
        x.sight(3, 0, 1, 0, 0);
        CHECKS.due("contrary ones are out", x.behind(0, 3), 17);
        CHECKS.due("contrary q", x.behind(0, 1), 0);
    }

    private static void behindAtTheEdges() {
        FarHeights x = new FarHeights();
        x.station(50);
        x.station(0);
        x.leg(0, 1, 0, 1);
        x.point(60, 0);
        x.point(70, 0);
        x.point(50, 0);
        x.sight(3, 0, 0, 3, 0);
        x.sight(5, 0, 1, -3, 0);
        x.sight(3, 1, 2, 99, 0);
        CHECKS.due("low of p", x.span(0, 0), 2);
        CHECKS.due("high of q", x.span(1, 1), 4);
        CHECKS.due("p at the station's place stands high", x.span(2, 0), 495 + 12 - 2);
        CHECKS.due("2 * 20 is not more than 4 * 10", x.behind(0, 1), 0);
        x.falls(1, true);
        x.sight(5, 0, 1, -4, 0);
        CHECKS.due("2 * 20 is more than 2 * 10", x.behind(0, 1), 1);
    }

    /** A station next to great masses sees a point so high that products with it pass an int. */
    private static void behindOfGreatHeights() {
        FarHeights x = new FarHeights();
        x.station(50);
        x.station(10);
        x.leg(0, 1, 0, 1);
        for (int i = 0; i < 6; i++) {
            x.point(49, 99);
        }
        x.point(990, 0);
        x.point(999, 0);
        x.sight(3, 0, 6, 0, 0);
        x.sight(3, 1, 7, 0, 0);
        CHECKS.due("lean", x.stationOf(0, 4), -29700);
        CHECKS.due("low of p", x.span(6, 0), 29700 * 940 / 10 + 940 * 940 / 200 - 1);
        CHECKS.due("q stands lower", x.behind(0, 7), 64);
    }

    private static void highest() {
        FarHeights x = new FarHeights();
        CHECKS.due("no point", x.highest(0, 0), -1);
        x.station(0);
        x.point(10, 0);
        x.point(10, 0);
        x.point(10, 0);
        CHECKS.due("part 2", x.highest(0, 2), -1);
        CHECKS.due("part -1", x.highest(0, -1), -1);
        CHECKS.due("no span", x.highest(0, 0), -3);
        x.sight(3, 0, 1, 10, 0);
        CHECKS.due("the only one", x.highest(1, 0), 1);
        CHECKS.due("by 1", x.highest(1, 1), 1);
        x.sight(3, 0, 0, 10, 0);
        CHECKS.due("of like ones the least: 6 of 9", x.highest(0, 0), 2);
        CHECKS.due("by 3", x.highest(0, 1), 3);
        CHECKS.due("the other: 3 of 9", x.highest(1, 0), 1);
        CHECKS.due("by 3 too", x.highest(1, 1), 3);
        x.sight(3, 0, 2, 90, 0);
        CHECKS.due("a far higher one", x.highest(2, 0), 1);
        CHECKS.due("surely", x.highest(2, 1), 1);
        CHECKS.due("never", x.highest(0, 0), 0);
        CHECKS.due("never: by 1", x.highest(0, 1), 1);
        x.sight(3, 0, 2, 10, 0);
        CHECKS.due("contrary itself", x.highest(2, 0), -4);
        CHECKS.due("another is contrary", x.highest(0, 1), -4);
        x.point(10, 0);
        CHECKS.due("no span goes ahead of contrary", x.highest(3, 0), -3);
    }

    private static void highestInOneWay() {
        FarHeights x = new FarHeights();
        x.station(0);
        x.point(10, 0);
        x.point(10, 0);
        x.sight(3, 0, 0, 11, 0);
        x.sight(3, 0, 1, 10, 0);
        CHECKS.due("11 above 10 alone", x.highest(1, 0), 1);
        CHECKS.due("of 9", x.highest(1, 1), 9);
        CHECKS.due("all others", x.highest(0, 0), 8);
    }

    /** 8 spans as wide as they can be: 135 feet each. */
    private static void highestOfMany() {
        FarHeights x = new FarHeights();
        for (int i = 0; i < 6; i++) {
            x.station(0);
            if (i > 0) {
                x.leg(i - 1, i, 0, 9);
            }
        }
        for (int i = 0; i < 8; i++) {
            x.point(999, 0);
            x.sight(4, 5, i, 99, 0);
        }
        CHECKS.due("width", x.span(7, 1) - x.span(7, 0), 134);
        long below = 1;
        for (int i = 0; i < 8; i++) {
            below *= 135;
        }
        double sum = 0;
        for (int i = 0; i < 8; i++) {
            long under = x.highest(i, 1);
            CHECKS.holds("below the line of " + i, under > 0 && below % under == 0);
            sum += (double) x.highest(i, 0) / under;
        }
        CHECKS.holds("the odds together are 1", sum > 0.999999 && sum < 1.000001);
        long ways = 0;
        for (long i = 0; i < 135; i++) {
            ways += i * i * i * i * i * i * i;
        }
        long shared = java.math.BigInteger.valueOf(ways).gcd(java.math.BigInteger.valueOf(below)).longValue();
        CHECKS.due("above of the last", x.highest(7, 0), ways / shared);
        CHECKS.due("below of the last", x.highest(7, 1), below / shared);
    }

    private static void said() {
        FarHeights x = new FarHeights();
        CHECKS.due("said of no point", x.said(0), LOW_BAD);
        x.station(0);
        x.point(100, 0);
        CHECKS.due("said without a span", x.said(0), LOW_NONE);
        x.sight(2, 0, 0, 10, 0);
        CHECKS.due("said 150", x.said(0), 150);
        x.falls(0, true);
        x.sight(2, 0, 0, 15, 0);
        CHECKS.due("200 is said as 202", x.said(0), 202);
        x.falls(1, true);
        x.sight(2, 0, 0, -5, 0);
        CHECKS.due("0 is said as 2", x.said(0), 2);
        x.falls(2, true);
        x.sight(2, 0, 0, -25, 0);
        CHECKS.due("-200 is said as -198", x.said(0), -198);
        x.sight(5, 0, 0, -24, 0);
        CHECKS.due("-205 to -195 and -210 to -190", x.said(0), -198);
        x.sight(2, 0, 0, -24, 0);
        CHECKS.due("-195 to -195", x.said(0), -195);
        x.sight(3, 0, 0, 99, 0);
        CHECKS.due("said contrary", x.said(0), LOW_STATE);
        FarHeights y = new FarHeights();
        y.station(0);
        y.point(1, 0);
        y.station(0);
        y.leg(0, 1, -3, 1);
        y.sight(3, 0, 0, 0, 0);
        y.sight(3, 1, 0, 0, 0);
        CHECKS.due("-1 to -1", y.said(0), -1);
        y.falls(1, true);
        y.sight(2, 1, 0, 0, 0);
        CHECKS.due("-1 to 1 is 0, said as 2", y.said(0), 2);
        y.falls(0, true);
        CHECKS.due("-9 to 3", y.said(0), -3);
        y.sight(1, 1, 0, 10, 0);
        CHECKS.due("-6 to 2", y.said(0), -2);
        y.mend(0, 0, 0);
        y.falls(0, false);
        y.falls(3, true);
        y.sight(3, 1, 0, -20, 0);
        CHECKS.due("-1 to 0: cut towards 0, then 2 more", y.said(0), 2);
    }

    private static void believed() {
        FarHeights x = new FarHeights();
        CHECKS.due("believed of no point", x.believed(0, 1), -1);
        x.station(0);
        x.point(100, 0);
        CHECKS.due("without a span", x.believed(0, 1), 0);
        x.sight(2, 0, 0, 5, 0);
        CHECKS.due("just low", x.believed(0, 95), 1);
        CHECKS.due("just high", x.believed(0, 105), 1);
        CHECKS.due("below low", x.believed(0, 94), 0);
        CHECKS.due("above high", x.believed(0, 106), 0);
        CHECKS.due("divides by 100", x.believed(0, 100), 0);
        CHECKS.due("next to it", x.believed(0, 101), 1);
        x.falls(0, true);
        x.sight(2, 0, 0, -5, 0);
        CHECKS.due("0 divides by 100", x.believed(0, 0), 0);
        CHECKS.due("-1 does not", x.believed(0, -1), 1);
        x.sight(2, 0, 0, 99, 0);
        CHECKS.due("contrary", x.believed(0, -1), 0);
        CHECKS.due("believed of point -1", x.believed(-1, 1), -1);
    }
}
