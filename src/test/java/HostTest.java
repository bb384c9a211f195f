/** Promises 29 to 36: sheets, books, shelves, acts and their trace. */
public final class HostTest {
    private static final Checks CHECKS = new Checks("HostTest");

    public static void main(String[] args) {
        sheet();
        put();
        item();
        book();
        bookWithoutRoom();
        shelf();
        taken();
        acts();
        traces();
        partedByNothing();
        noTrace();
        CHECKS.end();
    }

    private static void sheet() {
        FarHeights x = new FarHeights();
        CHECKS.due("sheet -1", x.sheet(-1, 0, 1), -1);
        CHECKS.due("sheet 4", x.sheet(4, 0, 1), -1);
        CHECKS.due("sort -2", x.sheet(0, -2, 1), -1);
        CHECKS.due("sort 4", x.sheet(0, 4, 1), -1);
        CHECKS.due("n 41", x.sheet(0, 0, 41), -1);
        CHECKS.due("n -1", x.sheet(0, 0, -1), -14);
        CHECKS.due("bad goes ahead of -14", x.sheet(0, 4, -1), -1);
        CHECKS.due("nothing came of these", x.put(0, 0, 1), -11);
        CHECKS.due("n 40", x.sheet(0, 3, 40), 1);
        CHECKS.due("put", x.put(0, 39, 5), 1);
        CHECKS.due("item", x.item(0, 3, 39), 5);
        x.put(0, 0, 6);
        CHECKS.due("anew", x.sheet(0, 3, 40), 1);
        CHECKS.due("the first is 0", x.item(0, 3, 0), 0);
        CHECKS.due("all 0", x.item(0, 3, 39), 0);
        CHECKS.due("missing, n counts nothing", x.sheet(0, -1, -5), 1);
        CHECKS.due("missing, n 99", x.sheet(1, -1, 99), 1);
        CHECKS.due("missing", x.item(0, 3, 0), -11);
        CHECKS.due("n 0", x.sheet(0, 1, 0), 1);
        CHECKS.due("no item", x.item(0, 1, 0), -12);
    }

    private static void put() {
        FarHeights x = new FarHeights();
        CHECKS.due("put sheet 4", x.put(4, 0, 1), -1);
        CHECKS.due("put sheet -1", x.put(-1, 0, 1), -1);
        CHECKS.due("put missing", x.put(0, -1, 1), -11);
        x.sheet(0, 0, 3);
        CHECKS.due("put -1", x.put(0, -1, 1), -12);
        CHECKS.due("put 3", x.put(0, 3, 1), -12);
        CHECKS.due("put 2", x.put(0, 2, 200), 1);
        CHECKS.due("a byte", x.item(0, 0, 2), -56);
        x.sheet(1, 1, 1);
        x.put(1, 0, 0x12348765);
        CHECKS.due("a short", x.item(1, 1, 0), (short) 0x8765);
        x.sheet(2, 2, 1);
        x.put(2, 0, Integer.MIN_VALUE);
        CHECKS.due("an int", x.item(2, 2, 0), Integer.MIN_VALUE);
        x.sheet(3, 3, 1);
        x.put(3, 0, -7);
        CHECKS.due("a long", x.item(3, 3, 0), -7);
    }

    private static void item() {
        FarHeights x = new FarHeights();
        CHECKS.due("item sheet 4", x.item(4, 0, 0), -1);
        CHECKS.due("item sort 4", x.item(0, 4, 0), -1);
        CHECKS.due("item sort -1", x.item(0, -1, 0), -1);
        CHECKS.due("item missing", x.item(0, 0, 9), -11);
        x.sheet(0, 2, 2);
        CHECKS.due("another sort", x.item(0, 1, 9), -13);
        CHECKS.due("item 2", x.item(0, 2, 2), -12);
        CHECKS.due("item -1", x.item(0, 2, -1), -12);
        CHECKS.due("item 1", x.item(0, 2, 1), 0);
    }

    private static void book() {
        FarHeights x = new FarHeights();
        CHECKS.due("no station", x.book(0, 0, 0, 0), -1);
        x.station(0);
        x.point(10, 0);
        x.point(20, 0);
        CHECKS.due("sheet 4", x.book(0, 4, 0, 0), -1);
        CHECKS.due("n 9", x.book(0, 0, 0, 9), -1);
        CHECKS.due("n -1", x.book(0, 0, 0, -1), -1);
        CHECKS.due("missing, of none too", x.book(0, 0, 0, 0), -11);
        x.sheet(0, 0, 4);
        CHECKS.due("bytes, of none too", x.book(0, 0, 0, 0), -13);
        x.sheet(0, 1, 5);
        CHECKS.due("none, from outside", x.book(0, 0, 99, 0), 0);
        CHECKS.due("from -1", x.book(0, 0, -1, 1), -12);
        CHECKS.due("from 5", x.book(0, 0, 5, 1), -12);
        CHECKS.due("from the greatest int", x.book(0, 0, Integer.MAX_VALUE, 8), -12);
        CHECKS.due("nothing came", x.many(3), 0);
        x.put(0, 0, -99);
        x.put(0, 1, 999);
        x.put(0, 2, 1000);
        x.put(0, 3, -100);
        x.put(0, 4, 7);
        CHECKS.due("all five, two have points", x.book(0, 0, 0, 5), 2);
        CHECKS.due("kind", x.sightOf(1, 0), 2);
        CHECKS.due("station", x.sightOf(1, 1), 0);
        CHECKS.due("point", x.sightOf(1, 2), 1);
        CHECKS.due("slant", x.sightOf(1, 3), 999);
        Checks.readText(x, "bend 9 if hour = 12 and heat = 20;");
        CHECKS.due("hour and heat", x.sightOf(0, 4), 9);
        CHECKS.due("no slants", x.book(0, 0, 2, 2), 0);
        CHECKS.due("the second comes, the third is outside", x.book(0, 0, 3, 3), -12);
        CHECKS.due("what stood ahead came", x.many(3), 3);
        CHECKS.due("its point", x.sightOf(2, 2), 1);
        CHECKS.due("outside without a point", x.book(0, 0, 4, 8), -12);
        CHECKS.due("what stood ahead came again", x.many(3), 4);
    }

    private static void bookWithoutRoom() {
        FarHeights x = new FarHeights();
        x.station(0);
        x.point(10, 0);
        x.point(10, 0);
        for (int i = 0; i < 23; i++) {
            x.sight(1, 0, 0, 0, 0);
        }
        x.sheet(3, 1, 3);
        CHECKS.due("room for one", x.book(0, 3, 0, 3), 1);
        CHECKS.due("room for none", x.book(0, 3, 0, 3), 0);
        CHECKS.due("outside all the same", x.book(0, 3, 1, 3), -12);
        CHECKS.due("many(3)", x.many(3), 24);
    }

    private static void shelf() {
        FarHeights x = new FarHeights();
        CHECKS.due("shelf -1", x.shelf(-1, 3, 0), -1);
        CHECKS.due("shelf 4", x.shelf(4, 3, 0), -1);
        CHECKS.due("what 4", x.shelf(0, 4, 0), -1);
        CHECKS.due("what -1", x.shelf(0, -1, 0), -1);
        CHECKS.due("no such sight", x.shelf(0, 0, 0), -1);
        CHECKS.due("no such point", x.shelf(0, 1, 0), -1);
        CHECKS.due("no such sheet", x.shelf(0, 2, 4), -1);
        CHECKS.due("a missing sheet", x.shelf(0, 2, 3), 1);
        CHECKS.due("is nothing", x.taken(0, 10), -11);
        CHECKS.due("nothing, n counts nothing", x.shelf(3, 3, -77), 1);
        x.sheet(3, 2, 6);
        CHECKS.due("a sheet that comes later is not on the shelf", x.taken(0, 12), -11);
        x.shelf(0, 2, 3);
        x.sheet(3, 1, 9);
        CHECKS.due("the row as it was then", x.taken(0, 12), 6);
        x.sheet(3, -1, 0);
        CHECKS.due("the row stays on the shelf", x.taken(0, 12), 6);
        CHECKS.due("a refusal leaves the shelf as it was", x.shelf(0, 1, 0), -1);
        CHECKS.due("the row is there still", x.taken(0, 12), 6);
        x.shelf(0, 3, 0);
        CHECKS.due("nothing", x.taken(0, 12), -11);
    }

    private static void taken() {
        FarHeights x = new FarHeights();
        x.station(0);
        x.point(10, 0);
        x.point(10, 0);
        CHECKS.due("taken -1", x.taken(-1, 0), -1);
        CHECKS.due("taken 4", x.taken(4, 0), -1);
        CHECKS.due("as 7", x.taken(0, 7), -1);
        CHECKS.due("as 9", x.taken(0, 9), -1);
        CHECKS.due("as 14", x.taken(0, 14), -1);
        CHECKS.due("as -1", x.taken(0, -1), -1);
        CHECKS.due("nothing", x.taken(0, 6), -11);
        CHECKS.due("nothing for a row", x.taken(0, 13), -11);
        String[] under = {"01", "02", "03", "014", "025"};
        for (int kind = 1; kind <= 5; kind++) {
            x.sight(kind, 0, 0, 0, 0);
            x.shelf(1, 0, kind - 1);
            for (int as = 0; as <= 6; as++) {
                boolean fits = under[kind - 1].indexOf('0' + as) >= 0;
                CHECKS.due("kind " + kind + " as " + as, x.taken(1, as), fits ? kind - 1 : -13);
            }
            CHECKS.due("kind " + kind + " as a row", x.taken(1, 11), -13);
        }
        x.shelf(1, 1, 1);
        for (int as = 0; as <= 5; as++) {
            CHECKS.due("a point as " + as, x.taken(1, as), -13);
        }
        CHECKS.due("a point as a point", x.taken(1, 6), 1);
        for (int sort = 0; sort <= 3; sort++) {
            x.sheet(sort, sort, sort + 7);
            x.shelf(2, 2, sort);
            for (int as = 10; as <= 13; as++) {
                CHECKS.due("sort " + sort + " as " + as, x.taken(2, as), as - 10 == sort ? sort + 7 : -13);
            }
            CHECKS.due("a row as a sight", x.taken(2, 0), -13);
            CHECKS.due("a row as a thing of its sort's number", x.taken(2, sort), -13);
        }
        goneAndThereAgain();
    }

    private static void goneAndThereAgain() {
        FarHeights x = new FarHeights();
        x.keep();
        x.station(0);
        x.point(10, 3);
        x.sight(1, 0, 0, 5, 0);
        x.shelf(0, 0, 0);
        x.shelf(1, 1, 0);
        x.mass(0, 4);
        CHECKS.due("a point as it is now", x.act(1, 0, 10), 40);
        x.back();
        CHECKS.due("the sight is gone", x.taken(0, 6), -11);
        CHECKS.due("the point is gone", x.taken(1, 0), -11);
        CHECKS.due("what is gone doesn't act", x.act(1, 0, 10), 0);
        x.station(0);
        x.point(10, 8);
        x.sight(5, 0, 0, 5, 0);
        CHECKS.due("a sight of that number is there", x.taken(0, 5), 0);
        CHECKS.due("a point of that number is there", x.act(1, 0, 10), 80);
    }

    private static void act(FarHeights x, int act, int arg, int want, int... bodies) {
        String call = "act(0, " + act + ", " + arg + ") of kind " + x.sightOf(x.taken(0, 0), 0);
        CHECKS.due(call, x.act(0, act, arg), want);
        CHECKS.due("bodies of " + call, x.many(8), bodies.length);
        for (int i = 0; i < bodies.length; i++) {
            CHECKS.due("trace(" + i + ") of " + call, x.trace(i), bodies[i]);
        }
        CHECKS.due("trace after " + call, x.trace(bodies.length), -3);
        CHECKS.due("trace ahead of " + call, x.trace(-1), -3);
    }

    /** Each sight here has number 2 and slant 12. */
    private static FarHeights withSight(int kind) {
        FarHeights x = new FarHeights();
        x.station(0);
        x.point(10, 9);
        x.sight(1, 0, 0, 1, 0);
        x.sight(1, 0, 0, 1, 0);
        x.sight(kind, 0, 0, 12, 0);
        x.shelf(0, 0, 2);
        return x;
    }

    private static void acts() {
        FarHeights morning = withSight(1);
        act(morning, 0, 5, 17, 10);
        act(morning, 1, 5, 41, 20, 11, 10);
        act(morning, 2, -55, -5, 12);
        act(morning, 3, 5, 41 ^ 2, 13, 20, 11, 10);
        FarHeights noon = withSight(2);
        act(noon, 0, 5, 15, 30, 10);
        act(noon, 1, 5, 30, 11, 30, 10);
        act(noon, 2, 55, 5, 12);
        act(noon, 3, 5, 30 ^ 2, 13, 11, 30, 10);
        FarHeights both = withSight(3);
        act(both, 0, 5, 17, 10);
        act(both, 1, 5, 34, 11, 10);
        act(both, 2, 59, 12, 40, 12);
        act(both, 2, 58, 10, 40, 12);
        act(both, 3, 5, 34 ^ 2, 13, 11, 10);
        FarHeights far = withSight(4);
        act(far, 0, 5, 17 ^ 3, 50, 10);
        act(far, 1, 5, (17 ^ 3) * 2 + 7, 20, 11, 50, 10);
        act(far, 2, 59, 5, 12);
        act(far, 3, 5, ((17 ^ 3) * 2 + 7 ^ 2) + 0, 51, 13, 20, 11, 50, 10, 12);
        FarHeights hidden = withSight(5);
        act(hidden, 0, 5, -15, 60, 30, 10);
        act(hidden, 1, 5, -30 - 12, 61, 11, 60, 30, 10, 60, 30, 10);
        act(hidden, 2, 59, 5, 12);
        act(hidden, 3, 5, -42 ^ 2, 13, 61, 11, 60, 30, 10, 60, 30, 10);
        CHECKS.due("ints wrap", morning.act(0, 0, Integer.MAX_VALUE), Integer.MIN_VALUE + 11);
        CHECKS.due("ints wrap twice", morning.act(0, 1, Integer.MAX_VALUE), (Integer.MIN_VALUE + 11) * 2 + 7);
    }

    private static void traces() {
        FarHeights x = new FarHeights();
        x.point(0, 1);
        x.point(5, 12);
        x.shelf(0, 1, 1);
        CHECKS.due("a point sees", x.act(0, 0, 3), 36);
        CHECKS.due("a point bends", x.act(0, 1, 3), 35);
        CHECKS.due("a point leans", x.act(0, 2, 3), 15);
        CHECKS.due("a point tells", x.act(0, 3, 3), 35 + 13);
        int[] bodies = {73, 71, 70, 72};
        for (int i = 0; i < bodies.length; i++) {
            CHECKS.due("a point's trace " + i, x.trace(i), bodies[i]);
        }
        CHECKS.due("a point's trace ends", x.trace(4), -3);
        CHECKS.due("many(8)", x.many(8), 4);
    }

    private static void partedByNothing() {
        FarHeights x = new FarHeights();
        x.station(0);
        x.point(10, 9);
        x.sight(4, 0, 0, 0, 0);
        x.sight(3, 0, 0, 1, 0);
        x.sight(2, 0, 0, 1, 0);
        x.sight(2, 0, 0, 4, 0);
        x.shelf(0, 0, 0);
        act(x, 2, 7, -15, 12);
        act(x, 3, 7, -15, 51, 13, 20, 11, 50, 10, 12);
        act(x, 1, 7, 15, 20, 11, 50, 10);
        x.shelf(0, 0, 1);
        act(x, 2, 7, -15, 40, 12);
        x.shelf(0, 0, 2);
        act(x, 2, Integer.MIN_VALUE, Integer.MIN_VALUE, 12);
        x.shelf(0, 0, 3);
        act(x, 2, -7, -7, 12);
    }

    private static void noTrace() {
        FarHeights x = withSight(1);
        x.sheet(0, 0, 5);
        x.shelf(1, 2, 0);
        int[][] calls = {{-1, 0}, {4, 0}, {0, -1}, {0, 4}, {1, 0}, {2, 0}};
        for (int[] call : calls) {
            CHECKS.due("act", x.act(0, 0, 1), 13);
            CHECKS.due("its trace", x.many(8), 1);
            CHECKS.due("act that is none", x.act(call[0], call[1], 1), 0);
            CHECKS.due("no trace then", x.many(8), 0);
            CHECKS.due("no body then", x.trace(0), -3);
        }
        x.act(0, 0, 1);
        x.taken(0, 1);
        x.shelf(0, 3, 0);
        CHECKS.due("the trace stays till the next act", x.trace(0), 10);
    }
}
