/** The boundary sentences of promises 37 to 39: how many, what is kept and what is not. */
public final class EdgesKeptTest {
    private static final int MIN = Run.MIN, MAX = Run.MAX;
    private static final Checks CHECKS = new Checks("EdgesKeptTest");

    public static void main(String[] args) {
        manyWhat();
        manyOfNothing();
        manyOfAll();
        manyThatCount();
        backOfNothing();
        keepOfNothing();
        keepOfAll();
        keepChangesNothing();
        backBecomesWhatWasKept();
        backToWhatWasKeptLatest();
        whatWasKeptStays();
        eachPartIsKept();
        notKept();
        fullAgainAfterBack();
        numbersComeAnew();
        CHECKS.end();
    }

    private static Run run(String sentence) {
        return new Run(CHECKS, sentence);
    }

    private static void manyWhat() {
        String sentence = "37: BAD: another what";
        run(sentence).refuses("many(#)", Run.BAD, -1, 9, 10, MIN, MAX);
        Houses.mixed(run(sentence)).refuses("many(#)", Run.BAD, -1, 9, MIN, MAX);
        Houses.full(run(sentence)).refuses("many(#)", Run.BAD, -1, 9, MIN, MAX);
    }

    private static void manyOfNothing() {
        run("37: how many: of nothing 0").leaves("many(#)", 0, 0, 1, 2, 3, 4, 5, 6, 7, 8);
    }

    private static void many(Run run, int... want) {
        for (int what = 0; what < want.length; what++) {
            run.leaves("many(" + what + ")", want[what]);
        }
    }

    private static void manyOfAll() {
        many(Houses.full(run("37: how many: as many as there may be")), 6, 12, 8, 24, 8, 8, 6, 200, 7);
        many(Houses.mixed(run("37: how many: of some")), 4, 4, 5, 6, 4, 2, 3, 19, 9);
    }

    private static void manyThatCount() {
        Run run = Houses.full(run("37: 4 of these that count"));
        for (int k = 8; k < 24; k++) {
            run.does("falls(" + k + ", false)");
        }
        run.asks("many(4)", 24);
        for (int k = 0; k < 24; k++) {
            run.does("falls(" + k + ", true)");
        }
        run.asks("many(4)", 0).asks("many(3)", 24);
        Run level = run("37: 4: without a LEVEL none counts").does("station(0)", "station(0)", "point(1, 1)");
        level.does("sight(1, 1, 0, 0, 0)").asks("many(4)", 0).asks("many(3)", 1).does("leg(1, 0, 0, 1)").asks("many(4)", 1);
    }

    private static void backOfNothing() {
        String sentence = "39: NONE: nothing is kept";
        run(sentence).refuses("back()", Run.NONE);
        Run some = run(sentence).does("station(0)", "point(1, 1)", "sight(1, 0, 0, 0, 0)").feeds("bend 1;");
        some.refuses("back()", Run.NONE).asks("many(3)", 1);
    }

    private static void keepOfNothing() {
        Run run = run("38: a new object is kept").then("keep()", 1).leaves("back()", 1).does("masses(2)");
        for (int s = 0; s < 6; s++) {
            run.does("station(9)");
        }
        run.does("leg(0, 1, 5, 5)", "point(3, 3)", "sight(3, 0, 0, 7, 0)").reads("bend 7;").then("back()", 1);
        many(run, 0, 0, 0, 0, 0, 0, 0, 0, 0);
        run.looksLike(run("38").does("keep()")).asks("masses(1)", 0).asks("station(1)", 0).asks("again()", Run.NONE);
    }

    private static void keepOfAll() {
        Run run = Houses.full(run("38: all that there may be is kept"));
        run.leaves("keep()", 1).leaves("back()", 1);
        Run changed = Houses.full(run("39: it becomes what was kept, of all that there may be")).does("masses(2)");
        for (int i = 0; i < 12; i++) {
            changed.does("mend(" + i + ", 0, 77)", "falls(" + 2 * i + ", true)", "falls(" + (2 * i + 1) + ", false)");
        }
        for (int p = 0; p < 8; p++) {
            changed.does("mass(" + p + ", 77)");
        }
        changed.then("back()", 1).looksLike(Houses.full(run("39")));
    }

    private static void keepChangesNothing() {
        Run run = Houses.mixed(run("38: kept: 1; what is there stays"));
        run.asks("keep()", 1).then("keep()", 1).leaves("keep()", 1).leaves("back()", 1);
        many(run, 4, 4, 5, 6, 4, 2, 3, 19, 9);
    }

    /** The mixed house with an empty tape, so that laws can be read. */
    private static Run mixedWithoutTape(String sentence) {
        return Houses.mixed(run(sentence)).does("read()");
    }

    private static Run changed(Run run) {
        run.does("station(77)", "leg(0, 3, 9, 9)", "leg(0, 4, 9, 9)", "mend(0, 0, 50)", "mend(1, 1, 9)", "point(5, 5)");
        run.does("mass(0, 99)", "masses(2)", "sight(1, 4, 5, 5, 5)", "falls(0, true)", "falls(5, false)");
        return run.reads("bend 1;bend 2;bend 3;bend 4 if hour>3;bend 5 if heat>3;");
    }

    private static void backBecomesWhatWasKept() {
        Run run = changed(mixedWithoutTape("39: it becomes what was kept latest").does("keep()")).then("back()", 1);
        run.looksLike(mixedWithoutTape("39").does("keep()"));
    }

    private static void backToWhatWasKeptLatest() {
        Run run = run("39: what was kept latest").does("keep()", "station(1)", "keep()", "station(2)", "station(3)");
        run.asks("many(0)", 3).does("back()").asks("many(0)", 1).asks("stationOf(0, 3)", 1).does("station(4)", "keep()");
        run.does("station(5)", "back()").asks("many(0)", 2).asks("stationOf(1, 3)", 4).asks("stationOf(2, 3)", Run.LOW_BAD);
    }

    private static void whatWasKeptStays() {
        Run run = changed(mixedWithoutTape("39: (which stays)").does("keep()")).does("back()").leaves("back()", 1);
        changed(run).then("back()", 1).looksLike(mixedWithoutTape("39").does("keep()")).leaves("back()", 1);
    }

    /** One change, then back: it is as it was. */
    private static void part(String what, String change, String look, long before, long behind) {
        Run run = mixedWithoutTape("38: is kept: " + what).does("keep()").asks(look, before).does(change);
        run.asks(look, behind).does("back()").asks(look, before).looksLike(mixedWithoutTape("38").does("keep()"));
    }

    private static void eachPartIsKept() {
        part("STATIONS", "station(77)", "many(0)", 4, 5);
        part("LEGS", "leg(0, 3, 1, 1)", "many(1)", 4, 5);
        part("LEVELS", "leg(0, 3, 1, 1)", "stationOf(3, 0)", Run.LOW_NONE, 1);
        part("RISE", "mend(0, 0, 13)", "stationOf(1, 0)", 12, 13);
        part("SLIP", "mend(0, 1, 4)", "stationOf(1, 1)", 3, 4);
        part("POINTS", "point(7, 7)", "many(2)", 5, 6);
        part("MASS", "mass(2, 8)", "mass(2, 1)", 7, 8);
        part("LAW OF MASSES", "masses(2)", "masses(2)", 1, 2);
        part("SIGHTS", "sight(1, 0, 0, 0, 0)", "many(3)", 6, 7);
        part("what is FALSE", "falls(0, true)", "sightOf(0, 7)", 1, 0);
        part("what stands", "falls(5, false)", "sightOf(5, 7)", 0, 1);
        part("THE LAW", "read()", "many(5)", 2, 0);
        part("what is TOLD", "read()", "sightOf(2, 4)", 9, 0);
    }

    private static void notKept() {
        Run run = run("38: all but THE TAPE, ROWS, SHEETS, SHELVES, THE TRACE").does("station(0)", "point(1, 1)", "keep()");
        run.does("sheet(0, 0, 3)", "put(0, 0, 3)", "prove()", "alterRow(0, 1, 5)", "shelf(0, 1, 0)", "act(0, 3, 1)");
        run.feeds("bend 7").leaves("back()", 1).asks("many(7)", 6).asks("row(0, 1)", 5).asks("item(0, 0, 0)", 3);
        run.asks("taken(0, 6)", 0).asks("many(8)", 4).does("back()").asks("trace(0)", 73);
        run.does("keep()", "sheet(0, -1, 0)", "shelf(0, 3, 0)", "act(0, 0, 0)").does("read()").leaves("back()", 1);
        run.asks("item(0, 0, 0)", Run.NOTHING).asks("taken(0, 6)", Run.NOTHING).asks("many(8)", 0).asks("many(7)", 0);
        Run rows = run("38: ROWS are not kept").does("station(0)", "prove()", "keep()", "station(1)", "leg(0, 1, 1, 1)");
        rows.does("prove()", "back()").asks("many(6)", 2).asks("row(1, 0)", 1).asks("judge()", 2);
    }

    private static void fullAgainAfterBack() {
        Run run = Houses.full(run("39: what was FULL when it was kept is FULL again")).does("back()");
        run.refuses("station(0)", Run.FULL).refuses("leg(0, 1, 1, 1)", Run.FULL).refuses("point(0, 0)", Run.FULL);
        run.refuses("sight(1, 0, 0, 0, 0)", Run.FULL).refuses("feed(0, 1)", Run.FULL);
        Run room = run("39: what was not FULL has room again").does("keep()");
        for (int i = 0; i < 6; i++) {
            room.does("station(" + i + ")");
        }
        room.refuses("station(6)", Run.FULL).does("back()");
        for (int i = 0; i < 6; i++) {
            room.then("station(" + (60 + i) + ")", i).asks("stationOf(" + i + ", 3)", 60 + i);
        }
        room.refuses("station(6)", Run.FULL);
    }

    private static void numbersComeAnew() {
        Run run = run("39: what came after is gone: there is no such thing").does("keep()", "station(0)", "station(0)");
        run.does("leg(0, 1, 1, 1)", "point(1, 1)", "sight(1, 0, 0, 0, 0)", "falls(0, true)", "back()");
        run.refuses("stationOf(0, 3)", Run.LOW_BAD).refuses("mend(0, 0, 0)", Run.LOW_BAD).refuses("mass(0, 0)", Run.BAD);
        run.refuses("sightOf(0, 0)", Run.LOW_BAD).refuses("falls(0, false)", Run.BAD).refuses("leg(0, 1, 1, 1)", Run.BAD);
        run.then("station(5)", 0).then("station(6)", 1).asks("stationOf(1, 0)", Run.LOW_NONE).then("point(2, 2)", 0);
        run.then("sight(2, 0, 0, 4, 0)", 0).asks("sightOf(0, 7)", 1).asks("sightOf(0, 0)", 2).then("leg(0, 1, 4, 4)", 0);
        run.asks("stationOf(1, 0)", 4).asks("mass(0, 0)", 2);
    }
}
