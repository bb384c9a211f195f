/** The boundary sentences about SHEETS and books: part 5 of the Terms, promises 29 to 32. */
public final class EdgesSheetsTest {
    private static final int MIN = Run.MIN, MAX = Run.MAX;
    private static final Checks CHECKS = new Checks("EdgesSheetsTest");

    public static void main(String[] args) {
        sheetNumber();
        sheetSort();
        sheetSize();
        sheetBelow0();
        sheetMissing();
        sheetAll0();
        putSheet();
        putMissing();
        putOutside();
        putBytes();
        putShorts();
        putIntsAndLongs();
        itemSheetAndSort();
        itemOfAnotherSort();
        itemMissing();
        itemOutside();
        itemAsLowAsRefusals();
        bookArguments();
        bookOfAnotherSort();
        bookMissing();
        bookOutside();
        bookOfNone();
        bookSlants();
        bookWithoutPoints();
        bookWithoutRoom();
        bookWhatStoodAheadCame();
        bookAtNoon();
        CHECKS.end();
    }

    private static Run run(String sentence) {
        return new Run(CHECKS, sentence);
    }

    private static void sheetNumber() {
        String sentence = "SHEETS 0 to 3; 29: BAD: no such SHEET";
        run(sentence).asks("sheet(#, 0, 1)", 1, 0, 1, 2, 3).refuses("sheet(#, 0, 1)", Run.BAD, -1, 4, MIN, MAX);
        Run mixed = Houses.mixed(run(sentence)).refuses("sheet(#, 0, 1)", Run.BAD, -1, 4, MIN, MAX);
        mixed.refuses("sheet(#, -1, 0)", Run.BAD, -1, 4).refuses("sheet(#, 0, -1)", Run.BAD, -1, 4);
    }

    private static void sheetSort() {
        String sentence = "SHEETS are rows of bytes (sort 0) .. longs (3), or missing (sort -1); 29: BAD: no such sort";
        run(sentence).asks("sheet(0, #, 1)", 1, -1, 0, 1, 2, 3).refuses("sheet(0, #, 1)", Run.BAD, -2, 4, MIN, MAX);
        Run mixed = Houses.mixed(run(sentence)).refuses("sheet(1, #, 8)", Run.BAD, -2, 4, MIN, MAX);
        mixed.refuses("sheet(1, #, -1)", Run.BAD, -2, 4, MIN, MAX);
        for (int sort = 0; sort <= 3; sort++) {
            Run made = run(sentence).does("sheet(2, " + sort + ", 1)");
            for (int as = 0; as <= 3; as++) {
                made.asks("item(2, " + as + ", 0)", as == sort ? 0 : Run.OTHER);
            }
        }
    }

    private static void sheetSize() {
        String sentence = "SHEETS, 40 at most; 29: BAD: n above 40";
        for (int sort = 0; sort <= 3; sort++) {
            Run run = run(sentence).asks("sheet(3, " + sort + ", #)", 1, 0, 1, 39, 40);
            run.refuses("sheet(3, " + sort + ", #)", Run.BAD, 41, 42, 1000, MAX);
            run.does("sheet(3, " + sort + ", 40)").asks("item(3, " + sort + ", 39)", 0);
            run.asks("item(3, " + sort + ", 40)", Run.OUTSIDE).does("sheet(3, " + sort + ", 0)");
            run.asks("item(3, " + sort + ", 0)", Run.OUTSIDE);
        }
        Houses.mixed(run(sentence)).refuses("sheet(1, 1, #)", Run.BAD, 41, MAX);
    }

    private static void sheetBelow0() {
        String sentence = "-14 a size below 0; 29: -14";
        for (int sort = 0; sort <= 3; sort++) {
            run(sentence).refuses("sheet(0, " + sort + ", #)", Run.BELOW_0, -1, -2, -40, -41, MIN);
        }
        Houses.mixed(run(sentence)).refuses("sheet(1, 1, #)", Run.BELOW_0, -1, MIN);
    }

    private static void sheetMissing() {
        String sentence = "29: or missing (sort -1; n counts nothing then): 1";
        Run run = Houses.mixed(run(sentence));
        int[] sizes = {0, 1, 40, 41, -1, MIN, MAX};
        for (int n : sizes) {
            run.asksBehind("sheet(1, -1, " + n + ")", "item(1, 1, 0)", Run.NOTHING);
            run.asks("sheet(1, -1, " + n + ")", 1);
        }
        run.does("sheet(1, -1, 5)").asks("put(1, 0, 1)", Run.NOTHING).asks("book(0, 1, 0, 0)", Run.NOTHING);
        run.leaves("sheet(1, -1, 7)", 1).does("sheet(1, 1, 8)").asks("item(1, 1, 0)", 0);
        run("SHEETS: missing (at first)").asks("item(#, 0, 0)", Run.NOTHING, 0, 1, 2, 3);
    }

    private static void sheetAll0() {
        Run run = run("29: a row of n of a sort, all 0");
        for (int sheet = 0; sheet < 4; sheet++) {
            run.does("sheet(" + sheet + ", 2, 40)", "put(" + sheet + ", 0, 5)", "put(" + sheet + ", 39, -5)");
        }
        run.does("sheet(1, 2, 40)").asks("item(1, 2, #)", 0, 0, 1, 20, 38, 39).asks("item(0, 2, 39)", -5);
        run.asks("item(2, 2, 0)", 5).does("sheet(2, 3, 1)").asks("item(2, 3, 0)", 0).does("sheet(2, 3, 40)");
        run.asks("item(2, 3, 39)", 0).does("sheet(3, -1, 0)", "sheet(3, 2, 40)").asks("item(3, 2, #)", 0, 0, 39);
    }

    private static void putSheet() {
        String sentence = "30: BAD: no such SHEET";
        run(sentence).refuses("put(#, 0, 1)", Run.BAD, -1, 4, MIN, MAX);
        Houses.mixed(run(sentence)).refuses("put(#, 0, 1)", Run.BAD, -1, 4, MIN, MAX).refuses("put(#, -1, 1)", Run.BAD, -1, 4);
    }

    private static void putMissing() {
        String sentence = "-11 nothing where something is asked; 30: -11; -12";
        run(sentence).refuses("put(#, 0, 1)", Run.NOTHING, 0, 1, 2, 3).refuses("put(0, #, 1)", Run.NOTHING, -1, 40, MIN, MAX);
        Houses.mixed(run(sentence)).refuses("put(3, #, 1)", Run.NOTHING, 0, -1, 40);
    }

    private static void putOutside() {
        Run run = run("-12 a place outside; 30: -12");
        for (int sort = 0; sort <= 3; sort++) {
            run.does("sheet(" + sort + ", " + sort + ", " + (sort == 3 ? 40 : sort) + ")");
        }
        run.refuses("put(0, #, 1)", Run.OUTSIDE, 0, -1, 1, MIN, MAX);
        run.asks("put(1, 0, 1)", 1).refuses("put(1, #, 1)", Run.OUTSIDE, -1, 1, 2, 40, MIN, MAX);
        run.asks("put(2, 1, 1)", 1).refuses("put(2, #, 1)", Run.OUTSIDE, -1, 2, 39, MIN, MAX);
        run.asks("put(3, #, 1)", 1, 0, 39).refuses("put(3, #, 1)", Run.OUTSIDE, -1, 40, 41, MIN, MAX);
    }

    private static void keeps(int sort, long v, long want) {
        Run run = run("30: item i becomes v, narrowed to its sort").does("sheet(0, " + sort + ", 3)");
        run.then("put(0, 1, " + v + ")", 1).asks("item(0, " + sort + ", 1)", want).asks("item(0, " + sort + ", #)", 0, 0, 2);
    }

    private static void putBytes() {
        long[][] all = {{0, 0}, {127, 127}, {128, -128}, {-128, -128}, {-129, 127}, {255, -1}, {256, 0}, {-256, 0}, {-1, -1},
            {383, 127}, {384, -128}, {MAX, -1}, {MIN, 0}, {MIN + 127, 127}, {MAX - 127, -128}};
        for (long[] one : all) {
            keeps(0, one[0], one[1]);
        }
    }

    private static void putShorts() {
        long[][] all = {{0, 0}, {128, 128}, {32767, 32767}, {32768, -32768}, {-32768, -32768}, {-32769, 32767}, {65535, -1},
            {65536, 0}, {-65536, 0}, {-1, -1}, {98303, 32767}, {98304, -32768}, {MAX, -1}, {MIN, 0}, {MAX - 32767, -32768}};
        for (long[] one : all) {
            keeps(1, one[0], one[1]);
        }
    }

    private static void putIntsAndLongs() {
        long[] all = {0, -1, 1, 32768, -32769, 65536, MAX, MIN, MAX - 1, MIN + 1};
        for (long v : all) {
            keeps(2, v, v);
            keeps(3, v, v);
        }
    }

    private static void itemSheetAndSort() {
        String sentence = "31: BAD: no such SHEET, sort";
        run(sentence).refuses("item(#, 0, 0)", Run.BAD, -1, 4, MIN, MAX).refuses("item(0, #, 0)", Run.BAD, -1, 4, MIN, MAX);
        Run mixed = Houses.mixed(run(sentence)).refuses("item(#, 1, 0)", Run.BAD, -1, 4, MIN, MAX);
        mixed.refuses("item(1, #, 0)", Run.BAD, -1, 4, MIN, MAX).refuses("item(1, #, 99)", Run.BAD, -1, 4);
        mixed.refuses("item(#, 1, 99)", Run.BAD, -1, 4).refuses("item(3, #, 0)", Run.BAD, -1, 4);
    }

    private static void itemOfAnotherSort() {
        Run run = run("-13 a thing of another sort; 31: -13; ..; -12");
        for (int sort = 0; sort <= 3; sort++) {
            run.does("sheet(" + sort + ", " + sort + ", 3)", "put(" + sort + ", 2, 5)");
        }
        for (int sheet = 0; sheet < 4; sheet++) {
            for (int sort = 0; sort <= 3; sort++) {
                if (sort == sheet) {
                    run.leaves("item(" + sheet + ", " + sort + ", 2)", 5);
                } else {
                    run.refuses("item(" + sheet + ", " + sort + ", #)", Run.OTHER, 0, 2, 3, -1, MAX);
                }
            }
        }
        run.does("sheet(0, 0, 0)").refuses("item(0, #, 0)", Run.OTHER, 1, 2, 3).refuses("item(0, 0, 0)", Run.OUTSIDE);
    }

    private static void itemMissing() {
        String sentence = "31: -11: a missing SHEET is of no other sort; -11 goes ahead of -12";
        run(sentence).refuses("item(#, 0, 0)", Run.NOTHING, 0, 1, 2, 3).refuses("item(0, #, 0)", Run.NOTHING, 0, 1, 2, 3);
        run(sentence).refuses("item(0, 0, #)", Run.NOTHING, -1, 40, MIN, MAX);
        Houses.mixed(run(sentence)).refuses("item(3, #, 0)", Run.NOTHING, 0, 1, 2, 3);
    }

    private static void itemOutside() {
        Run run = Houses.mixed(run("31: -12")).asks("item(1, 1, 0)", 10).asks("item(1, 1, 7)", 0);
        run.refuses("item(1, 1, #)", Run.OUTSIDE, -1, 8, 9, 40, MIN, MAX).asks("item(2, 3, 39)", -13);
        run.refuses("item(2, 3, #)", Run.OUTSIDE, -1, 40, MIN, MAX).refuses("item(0, 0, #)", Run.OUTSIDE, -1, 5);
    }

    private static void itemAsLowAsRefusals() {
        Run run = run("31: (An item may be as low as these, too.)").does("sheet(0, 2, 6)");
        int[] low = {-1, -11, -12, -13, -14, -10000001};
        for (int i = 0; i < low.length; i++) {
            run.does("put(0, " + i + ", " + low[i] + ")").leaves("item(0, 2, " + i + ")", low[i]);
        }
    }

    /** A station, 8 points and a sheet 1 of shorts with 8 slants, 10 to 17. */
    private static Run booked(String sentence) {
        Run run = run(sentence).does("station(0)", "sheet(1, 1, 8)");
        for (int p = 0; p < 8; p++) {
            run.does("point(" + (10 + p) + ", 0)", "put(1, " + p + ", " + (10 + p) + ")");
        }
        return run;
    }

    private static void bookArguments() {
        String sentence = "32: BAD: no such STATION, SHEET, n (0 to 8)";
        run(sentence).does("sheet(1, 1, 8)").refuses("book(#, 1, 0, 0)", Run.BAD, 0, -1);
        Run run = booked(sentence);
        run.refuses("book(#, 1, 0, 1)", Run.BAD, -1, 1, MIN, MAX).refuses("book(0, #, 0, 1)", Run.BAD, -1, 4, MIN, MAX);
        run.refuses("book(0, 1, 0, #)", Run.BAD, -1, 9, MIN, MAX);
        for (int n = 0; n <= 8; n++) {
            run.asks("book(0, 1, 0, " + n + ")", n);
        }
        Run mixed = Houses.mixed(run(sentence)).asks("book(3, 1, 0, 1)", 1).refuses("book(#, 1, 0, 1)", Run.BAD, -1, 4);
        mixed.refuses("book(#, 3, 0, 1)", Run.BAD, -1, 4).refuses("book(0, 3, 0, #)", Run.BAD, -1, 9);
        mixed.refuses("book(0, 0, 0, #)", Run.BAD, -1, 9).refuses("book(#, 0, 99, 1)", Run.BAD, -1, 4);
        mixed.refuses("book(0, 1, 99, #)", Run.BAD, -1, 9).refuses("book(0, 1, -1, #)", Run.BAD, -1, 9);
    }

    private static void bookOfAnotherSort() {
        Run run = booked("32: a SHEET taken for shorts; -13 (of none, too)");
        int[] sorts = {0, 2, 3};
        for (int sort : sorts) {
            run.does("sheet(0, " + sort + ", 8)").refuses("book(0, 0, 0, #)", Run.OTHER, 0, 1, 8);
            run.refuses("book(0, 0, #, 1)", Run.OTHER, -1, 8, MIN, MAX);
        }
    }

    private static void bookMissing() {
        Run run = booked("32: -11 (of none, too); -12");
        run.refuses("book(0, 0, 0, #)", Run.NOTHING, 0, 1, 8).refuses("book(0, 3, #, 1)", Run.NOTHING, -1, 8, MIN, MAX);
    }

    private static void bookOutside() {
        Run run = booked("32: -12: such an item").asks("book(0, 1, 7, 1)", 1);
        run.refuses("book(0, 1, #, 1)", Run.OUTSIDE, -1, 8, 9, 40, MIN, MIN + 1, MAX, MAX - 1);
        run.refuses("book(0, 1, #, 8)", Run.OUTSIDE, -1, -7, -8, 8, MIN, MAX, MAX - 3, MAX - 7, MAX - 8);
        run.does("sheet(1, 1, 0)").refuses("book(0, 1, 0, #)", Run.OUTSIDE, 1, 8).leaves("book(0, 1, 0, 0)", 0);
        Run whole = booked("32: the last item of 40").does("sheet(1, 1, 40)").asks("book(0, 1, 32, 8)", 8);
        whole.asks("book(0, 1, 33, 8)", Run.OUTSIDE).asksBehind("book(0, 1, 33, 8)", "many(3)", 7);
    }

    private static void bookOfNone() {
        booked("32: n 0: none comes, wherever i is").leaves("book(0, 1, #, 0)", 0, 0, 7, 8, -1, 40, MIN, MAX);
    }

    private static void bookSlants() {
        int[][] all = {{-99, 1}, {-98, 1}, {0, 1}, {998, 1}, {999, 1}, {-100, 0}, {1000, 0}, {-32768, 0}, {32767, 0}, {66535, 1},
            {65436, 0}, {65437, 1}};
        for (int[] one : all) {
            Run run = booked("32: such as are no SLANT are left out: " + one[0]).does("put(1, 3, " + one[0] + ")");
            run.asks("book(0, 1, 3, 1)", one[1]).asks("book(0, 1, 0, 8)", 7 + one[1]).does("book(0, 1, 3, 1)");
            run.asks("many(3)", one[1]).asks("sightOf(0, 3)", one[1] == 1 ? (short) one[0] : Run.LOW_BAD);
        }
        Run gap = booked("32: SLANTS are of POINTS 0, 1, .. though one is left out").does("put(1, 4, 1000)");
        gap.then("book(0, 1, 3, 3)", 2).asks("sightOf(0, 2)", 0).asks("sightOf(1, 2)", 2).asks("sightOf(1, 3)", 15);
    }

    private static void bookWithoutPoints() {
        String sentence = "32: such as have no POINT are left out; -12, whether it has a POINT or not";
        Run none = run(sentence).does("station(0)", "sheet(1, 1, 8)").leaves("book(0, 1, 0, 8)", 0);
        none.refuses("book(0, 1, 1, 8)", Run.OUTSIDE).refuses("book(0, 1, 8, 1)", Run.OUTSIDE);
        Run two = run(sentence).does("station(0)", "sheet(1, 1, 8)", "point(1, 0)", "point(2, 0)");
        two.asks("book(0, 1, 0, 8)", 2).asks("book(0, 1, 5, 3)", 2).asks("book(0, 1, 5, 4)", Run.OUTSIDE);
        two.asksBehind("book(0, 1, 5, 4)", "many(3)", 2);
    }

    private static void bookWithoutRoom() {
        Run run = booked("32: such as have no room are left out");
        for (int i = 0; i < 2; i++) {
            run.then("book(0, 1, 0, 8)", 8);
        }
        run.then("book(0, 1, 0, 7)", 7).asks("many(3)", 23).then("book(0, 1, 0, 8)", 1).asks("many(3)", 24);
        run.asks("sightOf(23, 2)", 0).leaves("book(0, 1, 0, #)", 0, 0, 1, 8).refuses("book(0, 1, 7, 2)", Run.OUTSIDE);
        run.refuses("book(0, 1, #, 1)", Run.OUTSIDE, -1, 8);
        Houses.full(run("32: no room at all")).leaves("book(5, 1, 39, 1)", 0).refuses("book(5, 1, 40, 1)", Run.OUTSIDE);
    }

    private static void bookWhatStoodAheadCame() {
        Run run = booked("32: -12: ..; what stood ahead came").then("book(0, 1, 6, 5)", Run.OUTSIDE).asks("many(3)", 2);
        run.asks("sightOf(0, 3)", 16).asks("sightOf(1, 3)", 17).asks("sightOf(0, 2)", 0).asks("sightOf(1, 2)", 1);
        run.asks("sightOf(2, 0)", Run.LOW_BAD);
        Run same = booked("32: -12: and nothing else but what came").does("sight(2, 0, 0, 16, 1220)", "sight(2, 0, 1, 17, 1220)");
        same.looksLike(booked("32").does("book(0, 1, 6, 5)"));
    }

    private static void bookAtNoon() {
        Run run = booked("32: a SIGHT at NOON for each (HOUR 12, HEAT 20)").then("book(0, 1, 0, 2)", 2);
        run.asks("sightOf(#, 0)", 2, 0, 1).asks("sightOf(#, 1)", 0, 0, 1).asks("sightOf(#, 7)", 1, 0, 1);
        Run same = booked("32: as sight() would").does("sight(2, 0, 0, 10, 1220)", "sight(2, 0, 1, 11, 1220)");
        same.looksLike(booked("32").does("book(0, 1, 0, 2)"));
        Run after = run("32: a SIGHT of a number that was FALSE ahead of back() stands").does("station(0)", "point(10, 0)");
        after.does("sheet(1, 1, 8)", "keep()", "sight(3, 0, 0, 5, 0)", "falls(0, true)", "back()").then("book(0, 1, 0, 1)", 1);
        after.asks("sightOf(0, 7)", 1);
        run.reads("bend 9 if hour=12 and heat=20 and kind=2;").asks("sightOf(#, 4)", 9, 0, 1);
    }
}
