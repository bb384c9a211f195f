/** The boundary sentences of part 3 of the Terms but for ROWS, and of promises 19 to 22. */
public final class EdgesHighestTest {
    private static final int MIN = Run.MIN, MAX = Run.MAX;
    private static final Checks CHECKS = new Checks("EdgesHighestTest");

    public static void main(String[] args) {
        behindArguments();
        behindNone();
        behindSpans();
        behindPlaces();
        behindInAnyCase();
        behindByLevel();
        behindBits();
        behindOfGreatHeights();
        highestArguments();
        highestNone();
        highestState();
        highestAlone();
        highestOfLikeOnes();
        highestOfNothing();
        highestInLowestTerms();
        highestOfWidestSpans();
        saidPoint();
        saidRefusals();
        saidDividesBy100();
        saidIsCutTowards0();
        believedPoint();
        believedNumber();
        believedWithoutSpan();
        believedDividesBy100();
        CHECKS.end();
    }

    private static Run run(String sentence) {
        return new Run(CHECKS, sentence);
    }

    /** From station 0 each point is 10 away, so that a BOTH sight's foot is its slant. */
    private static Run plain(String sentence, int points) {
        Run run = run(sentence).does("station(0)");
        for (int p = 0; p < points; p++) {
            run.does("point(10, 0)");
        }
        return run;
    }

    private static void behindArguments() {
        String sentence = "19: BAD";
        run(sentence).does("station(0)").refuses("behind(0, #)", Run.BAD, 0, -1);
        run(sentence).does("point(0, 0)").refuses("behind(#, 0)", Run.BAD, 0, -1);
        Run mixed = Houses.mixed(run(sentence));
        mixed.leaves("behind(#, 0)", 0, 0, 1, 2).leaves("behind(0, 4)", 3).refuses("behind(#, 0)", Run.BAD, -1, 4, 6, MIN, MAX);
        mixed.refuses("behind(0, #)", Run.BAD, -1, 5, 8, MIN, MAX);
        Houses.full(run(sentence)).refuses("behind(#, 0)", Run.BAD, -1, 6).refuses("behind(0, #)", Run.BAD, -1, 8);
    }

    private static void behindNone() {
        Run run = Houses.mixed(run("19: BAD; NONE: the STATION has no LEVEL"));
        run.refuses("behind(3, #)", Run.NONE, 0, 3, 4).refuses("behind(3, #)", Run.BAD, -1, 5, MIN, MAX);
    }

    /** Place 60 is steep, place 70 flat: from place 50 the latter is behind. */
    private static Run hill(String sentence) {
        return run(sentence).does("station(50)", "point(60, 0)", "point(70, 0)");
    }

    private static void behindSpans() {
        Run run = hill("BEHIND: if both have SPANS that are not CONTRARY").leaves("behind(0, #)", 0, 0, 1);
        run.does("sight(3, 0, 0, 90, 0)").leaves("behind(0, 1)", 0).does("sight(3, 0, 1, 5, 0)").leaves("behind(0, 1)", 1);
        run.does("falls(0, true)").leaves("behind(0, 1)", 0).does("falls(0, false)", "sight(3, 0, 1, 50, 0)");
        run.leaves("behind(0, 1)", 0).does("falls(3, true)", "falls(2, true)").leaves("behind(0, 1)", 1);
        run.does("sight(3, 0, 0, 50, 0)").leaves("behind(0, 1)", 0);
    }

    private static void behindPlaces() {
        int[][] all = {{60, 70, 1}, {51, 52, 1}, {69, 70, 1}, {70, 70, 0}, {71, 70, 0}, {50, 70, 0}, {49, 70, 0}, {40, 45, 0},
            {45, 40, 0}, {51, 50, 0}, {51, 999, 1}};
        for (int[] one : all) {
            Run run = run("BEHIND: PLACES greater than the STATION's, p's less than q's: " + one[0] + ", " + one[1]);
            run.does("station(50)", "station(0)", "leg(0, 1, 99, 1)", "point(" + one[0] + ", 0)", "point(" + one[1] + ", 0)");
            run.does("sight(3, 1, 0, 999, 0)", "sight(3, 1, 1, -99, 0)").asks("behind(0, 1)", one[2]);
        }
    }

    private static void behindInAnyCase() {
        // p's foot is its slant; q's is twice it, and 2; AWAY is 10 and 20: so twice LOW must be more than HIGH
        int[][] all = {{10, 3, 7, 9, 17, 1}, {10, 5, 4, 9, 18, 0}, {10, 1, 7, 9, 19, 0}, {10, 5, 3, 9, 16, 1},
            {-10, 3, -14, -11, -25, 1}, {-10, 1, -14, -11, -23, 1}, {-10, 5, -16, -11, -22, 0}, {-10, 2, -14, -11, -21, 0},
            {1, 5, -5, 0, 0, 0}, {2, 5, -5, 1, 0, 1}};
        for (int[] one : all) {
            Run run = hill("BEHIND: p stands higher in any case: is more than").does("sight(3, 0, 0, " + one[0] + ", 0)");
            run.does("sight(" + one[1] + ", 0, 1, " + one[2] + ", 0)");
            run.asks("span(0, 0)", one[3]).asks("span(1, 1)", one[4]).leaves("behind(0, 1)", one[5]);
        }
    }

    private static void behindByLevel() {
        Run run = run("BEHIND: LOW of p less LEVEL, HIGH of q less LEVEL").does("station(50)", "station(50)", "leg(0, 1, 8, 1)");
        run.does("point(60, 0)", "point(70, 0)", "sight(3, 0, 0, 10, 0)", "sight(3, 0, 1, 7, 0)");
        // from 0: 9 * 20 and 17 * 10; from 1: 1 * 20 and 9 * 10
        run.leaves("behind(0, 1)", 1).leaves("behind(1, 1)", 0).does("mend(0, 0, -8)").leaves("behind(1, 1)", 1);
        run.asks("behind(0, 1)", 1);
        // 20 less LEVEL, times 20, against 31 less LEVEL, times 10: as much at LEVEL 9
        Run edge = run("BEHIND: by LEVEL, to the foot").does("station(50)", "station(50)", "leg(0, 1, 8, 1)", "point(60, 0)");
        edge.does("point(70, 0)", "sight(3, 0, 0, 21, 0)", "sight(3, 0, 1, 14, 0)").asks("span(1, 1)", 31);
        edge.leaves("behind(1, 1)", 1).does("mend(0, 0, 9)").leaves("behind(1, 1)", 0).does("mend(0, 0, -99)");
        edge.leaves("behind(1, 1)", 1);
    }

    private static void behindBits() {
        Run run = run("19: POINTS that a POINT is BEHIND, as bits").does("station(0)");
        for (int p = 0; p < 8; p++) {
            run.does("point(" + (100 + p) + ", 0)", "sight(3, 0, " + p + ", " + (999 - 100 * p) + ", 0)");
        }
        for (int q = 0; q < 8; q++) {
            run.leaves("behind(0, " + q + ")", (1 << q) - 1);
        }
        run.does("falls(0, true)").leaves("behind(0, 7)", 126);
    }

    private static void behindOfGreatHeights() {
        Run run = run("BEHIND of products above the greatest int").does("station(50)", "station(10)", "leg(0, 1, 0, 1)");
        for (int p = 0; p < 6; p++) {
            run.does("point(49, 99)");
        }
        run.does("point(990, 0)", "point(999, 0)", "sight(3, 0, 6, 0, 0)", "sight(3, 1, 7, 0, 0)");
        run.asks("span(6, 0)", 2796217).leaves("behind(0, 7)", 64).leaves("behind(0, 6)", 0);
    }

    private static void highestArguments() {
        String sentence = "20: BAD: no such POINT, part";
        run(sentence).does("station(0)").refuses("highest(#, 0)", Run.BAD, 0, -1);
        Run mixed = Houses.mixed(run(sentence));
        mixed.refuses("highest(#, 0)", Run.BAD, -1, 5, 8, MIN, MAX).refuses("highest(#, 1)", Run.BAD, -1, 5, MIN, MAX);
        mixed.leaves("highest(2, 0)", 0).leaves("highest(2, 1)", 1).refuses("highest(2, #)", Run.BAD, -1, 2, MIN, MAX);
        Houses.full(run(sentence)).refuses("highest(#, 0)", Run.BAD, -1, 8);
    }

    private static void highestNone() {
        Run run = Houses.mixed(run("20: BAD: ..; NONE: it has no SPAN"));
        run.refuses("highest(3, #)", Run.NONE, 0, 1).refuses("highest(3, #)", Run.BAD, -1, 2, MIN, MAX);
    }

    private static void highestState() {
        Run run = plain("20: NONE: ..; STATE: the SPAN of some POINT is CONTRARY", 3).does("sight(3, 0, 0, 5, 0)");
        run.does("sight(3, 0, 1, 5, 0)").asks("highest(0, 0)", 2).does("sight(3, 0, 1, 8, 0)");
        run.refuses("highest(0, #)", Run.STATE, 0, 1).refuses("highest(1, #)", Run.STATE, 0, 1);
        run.refuses("highest(2, #)", Run.NONE, 0, 1).refuses("highest(#, 2)", Run.BAD, 0, 1, 2);
        run.does("falls(2, true)").asks("highest(0, 0)", 2).asks("highest(1, 1)", 3);
    }

    private static void highestAlone() {
        Run run = plain("HIGHEST: each POINT that has a SPAN: the only one is it surely", 2).does("sight(2, 0, 1, 5, 0)");
        run.leaves("highest(1, 0)", 1).leaves("highest(1, 1)", 1).refuses("highest(0, #)", Run.NONE, 0, 1);
    }

    private static void highestOfLikeOnes() {
        Run run = plain("HIGHEST: (of like ones the least number)", 2).does("sight(3, 0, 0, 5, 0)", "sight(3, 0, 1, 5, 0)");
        run.leaves("highest(0, 0)", 2).leaves("highest(0, 1)", 3).leaves("highest(1, 0)", 1).leaves("highest(1, 1)", 3);
        Run touch = plain("HIGHEST: SPANS that share a foot alone", 2).does("sight(3, 0, 0, 5, 0)", "sight(3, 0, 1, 7, 0)");
        touch.leaves("highest(0, 0)", 1).leaves("highest(0, 1)", 9).leaves("highest(1, 0)", 8).leaves("highest(1, 1)", 9);
        Run other = plain("HIGHEST: SPANS that share a foot alone, the other way", 2);
        other.does("sight(3, 0, 0, 7, 0)", "sight(3, 0, 1, 5, 0)").leaves("highest(0, 0)", 1).leaves("highest(0, 1)", 1);
        other.leaves("highest(1, 0)", 0).leaves("highest(1, 1)", 1);
        Run eight = plain("HIGHEST: of 8 POINTS of one foot each the least", 8);
        for (int p = 0; p < 8; p++) {
            eight.does("sight(3, 0, " + p + ", 5, 0)", "sight(3, 0, " + p + ", 7, 0)");
        }
        eight.leaves("highest(0, #)", 1, 0, 1).leaves("highest(7, 0)", 0).leaves("highest(7, 1)", 1);
    }

    private static void highestOfNothing() {
        Run run = plain("HIGHEST: (0 is 0 by 1)", 3).does("sight(2, 0, 0, 5, 0)", "sight(2, 0, 1, 16, 0)", "sight(2, 0, 2, 99, 0)");
        run.leaves("highest(0, 0)", 0).leaves("highest(0, 1)", 1).leaves("highest(1, 0)", 0).leaves("highest(1, 1)", 1);
        run.leaves("highest(2, 0)", 1).leaves("highest(2, 1)", 1);
    }

    private static void highestInLowestTerms() {
        Run run = plain("HIGHEST: as a fraction in lowest terms", 2).does("sight(3, 0, 0, 5, 0)", "sight(2, 0, 1, 5, 0)");
        // 4, 5, 6 against 0 to 10: 5 + 6 + 7 of 33
        run.leaves("highest(0, 0)", 6).leaves("highest(0, 1)", 11).leaves("highest(1, 0)", 5).leaves("highest(1, 1)", 11);
        Run three = plain("HIGHEST: apart from each other", 3);
        three.does("sight(3, 0, 0, 5, 0)", "sight(3, 0, 1, 5, 0)", "sight(3, 0, 2, 5, 0)");
        // 1 + 4 + 9 of 27, 0 + 2 + 6 of 27, 0 + 1 + 4 of 27
        three.leaves("highest(0, 0)", 14).leaves("highest(1, 0)", 8).leaves("highest(2, 0)", 5);
        three.leaves("highest(#, 1)", 27, 0, 1, 2);
    }

    private static void highestOfWidestSpans() {
        Run run = run("HIGHEST of 8 SPANS of 135 feet, which need a long").does("station(0)");
        for (int s = 1; s < 6; s++) {
            run.does("station(0)", "leg(" + (s - 1) + ", " + s + ", 0, 9)");
        }
        for (int p = 0; p < 8; p++) {
            run.does("point(999, 0)", "sight(4, 5, " + p + ", 99, 0)");
        }
        java.math.BigInteger below = java.math.BigInteger.valueOf(135).pow(8);
        java.math.BigInteger[] above = {java.math.BigInteger.ZERO, java.math.BigInteger.ZERO};
        for (int foot = 0; foot < 135; foot++) {
            above[0] = above[0].add(java.math.BigInteger.valueOf(foot + 1).pow(7));
            above[1] = above[1].add(java.math.BigInteger.valueOf(foot).pow(7));
        }
        for (int i = 0; i < 2; i++) {
            java.math.BigInteger shared = above[i].gcd(below);
            run.leaves("highest(" + 7 * i + ", 0)", above[i].divide(shared).longValueExact());
            run.leaves("highest(" + 7 * i + ", 1)", below.divide(shared).longValueExact());
        }
    }

    private static void saidPoint() {
        String sentence = "21: SAID: LOW + BAD";
        run(sentence).does("station(0)").refuses("said(#)", Run.LOW_BAD, 0, -1);
        Houses.mixed(run(sentence)).refuses("said(#)", Run.LOW_BAD, -1, 5, 8, MIN, MAX);
        Houses.full(run(sentence)).refuses("said(#)", Run.LOW_BAD, -1, 8);
    }

    private static void saidRefusals() {
        Run run = plain("21: LOW + NONE; LOW + STATE: the SPAN is CONTRARY", 1).refuses("said(0)", Run.LOW_NONE);
        run.does("sight(3, 0, 0, 5, 0)").leaves("said(0)", 5).does("sight(3, 0, 0, 8, 0)").refuses("said(0)", Run.LOW_STATE);
        run.does("falls(0, true)").leaves("said(0)", 8).does("falls(1, true)").refuses("said(0)", Run.LOW_NONE);
        Run other = plain("21: another POINT's SPAN may be CONTRARY", 2).does("sight(3, 0, 0, 5, 0)", "sight(3, 0, 1, 5, 0)");
        other.does("sight(3, 0, 1, 9, 0)").leaves("said(0)", 5).refuses("said(1)", Run.LOW_STATE);
    }

    private static void said(int slant, int want) {
        Run run = plain("SAID: LOW and HIGH together by 2; 2 more, if that divides by 100", 1);
        run.does("sight(3, 0, 0, " + slant + ", 0)").leaves("said(0)", want);
    }

    private static void saidDividesBy100() {
        said(99, 99);
        said(100, 102);
        said(101, 101);
        said(102, 102);
        said(0, 2);
        said(-1, -1);
        said(1, 1);
        said(900, 902);
        said(50, 50);
        said(10, 10);
        said(998, 998);
        said(-99, -99);
        Run below = run("SAID: below 0: 2 more, if that divides by 100").does("station(0)", "station(0)", "leg(0, 1, -99, 1)");
        below.does("point(10, 0)", "sight(3, 1, 0, -1, 0)").leaves("said(0)", -98).does("mend(0, 0, -98)").leaves("said(0)", -99);
        below.does("sight(3, 1, 0, -3, 0)").asks("span(0, 0)", -101).asks("span(0, 1)", -99).leaves("said(0)", -98);
    }

    private static void saidIsCutTowards0() {
        int[][] all = {{5, 5}, {-6, -5}, {0, 2}, {-1, 2}, {-5, -4}, {-99, -98}, {99, 99}, {100, 102}, {199, 199}};
        for (int[] one : all) {
            // two BOTH sights whose feet are 1 apart share these two feet
            Run run = plain("SAID: by 2: quotients are cut towards 0", 1);
            run.does("sight(3, 0, 0, " + one[0] + ", 0)", "sight(3, 0, 0, " + (one[0] + 1) + ", 0)");
            run.asks("span(0, 0)", one[0]).asks("span(0, 1)", one[0] + 1).leaves("said(0)", one[1]);
        }
    }

    private static void believedPoint() {
        String sentence = "22: BAD: no such POINT";
        run(sentence).does("station(0)").refuses("believed(#, 1)", Run.BAD, 0, -1);
        Run mixed = Houses.mixed(run(sentence));
        mixed.refuses("believed(#, 1)", Run.BAD, -1, 5, 8, MIN, MAX).refuses("believed(5, #)", Run.BAD, 0, 100, MIN, MAX);
        Houses.full(run(sentence)).refuses("believed(#, 1)", Run.BAD, -1, 8);
    }

    private static void believedNumber() {
        Run run = plain("BELIEVED: if it lies in its SPAN", 1).does("sight(2, 0, 0, 50, 0)");
        run.leaves("believed(0, #)", 1, 45, 46, 50, 54, 55).leaves("believed(0, #)", 0, 44, 56, -50, MIN, MAX, MIN + 1);
        Run one = plain("BELIEVED: in a SPAN of one foot", 1).does("sight(3, 0, 0, 50, 0)", "sight(3, 0, 0, 52, 0)");
        one.leaves("believed(0, 51)", 1).leaves("believed(0, #)", 0, 50, 52);
    }

    private static void believedWithoutSpan() {
        Run run = plain("22: 0 (without a SPAN, or if it is CONTRARY, too)", 1).leaves("believed(0, #)", 0, 0, 1, 5, MIN, MAX);
        run.does("sight(3, 0, 0, 5, 0)").leaves("believed(0, #)", 1, 4, 5, 6).does("sight(3, 0, 0, 8, 0)");
        run.leaves("believed(0, #)", 0, 4, 5, 6, 7, 8, 9, MIN, MAX).does("falls(0, true)").leaves("believed(0, #)", 1, 7, 8, 9);
        run.does("falls(1, true)").leaves("believed(0, #)", 0, 7, 8, 9);
    }

    private static void believedDividesBy100() {
        int[] hundreds = {-99, 0, 100, 500, 900};
        for (int hundred : hundreds) {
            Run run = plain("BELIEVED: and doesn't divide by 100", 1).does("sight(2, 0, 0, " + hundred + ", 0)");
            int exact = hundred == -99 ? -100 : hundred;
            run.leaves("believed(0, " + exact + ")", 0);
            run.leaves("believed(0, #)", 1, exact - 1, exact + 1, exact + 2);
        }
        plain("BELIEVED: 50 does not divide by 100", 1).does("sight(3, 0, 0, 50, 0)").leaves("believed(0, 50)", 1);
    }
}
