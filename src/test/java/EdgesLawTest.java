import java.util.ArrayList;
import java.util.List;
import java.util.Set;

/** The boundary sentences of part 4 of the Terms and of promises 23 and 24. */
public final class EdgesLawTest {
    private static final int MIN = Run.MIN, MAX = Run.MAX;
    private static final Checks CHECKS = new Checks("EdgesLawTest");
    private static final String EIGHT_LINES = "bend 1;bend 2;bend 3;bend 4;bend 5;bend 6;bend 7;bend 8;";

    public static void main(String[] args) {
        feedNumber();
        feedLowestFirst();
        tapeAtMost();
        feedBadAheadOfFull();
        readUsesItUp();
        readOfNothing();
        readOfAFullTape();
        faultChangesNothing();
        faultAtTheFirstAndTheLast();
        linesAtMost();
        bendNumber();
        valueNumber();
        digitsAtMost();
        digitBytes();
        wordBytes();
        wordsAsLongAsTheyGo();
        blanks();
        otherBytes();
        bracketsAtMost();
        bracketsClose();
        endIfMoreMustCome();
        noTextGoesOn();
        manySteps();
        CHECKS.end();
    }

    private static Run run(String sentence) {
        return new Run(CHECKS, sentence);
    }

    /** A law of two lines, of which three sights are told unlike numbers; an empty tape. */
    private static Run ruled(String sentence) {
        Run run = run(sentence).does("station(0)", "point(20, 0)", "sight(1, 0, 0, 0, 0)", "sight(2, 0, 0, 0, 1220)");
        return run.does("sight(3, 0, 0, 0, 2340)").reads("bend 4 if hour>5; bend 9 if heat=40;");
    }

    private static void feedNumber() {
        String sentence = "23: n bytes (1 to 8): how many it has. BAD";
        Run run = run(sentence);
        for (int n = 1; n <= 8; n++) {
            run.asks("feed(0, " + n + ")", n);
        }
        run.refuses("feed(0, #)", Run.BAD, 0, 9, -1, -8, 200, MIN, MAX);
        Run mixed = Houses.mixed(run(sentence));
        mixed.asks("feed(59, 1)", 20).asks("feed(59, 8)", 27).refuses("feed(59, #)", Run.BAD, 0, 9, -1, MIN, MAX);
    }

    private static void feedLowestFirst() {
        // "bend 77;" is 0x3b373720_646e6562 with its first byte lowest
        long eight = 0x3b373720646e6562L;
        Run run = ruled("23: the lowest of eight first; what is above n counts nothing").does("feed(" + eight + ", 8)");
        run.then("read()", 1).asks("sightOf(0, 4)", 77);
        Run parts = ruled("23: by single bytes of which the higher ones count nothing");
        for (int i = 0; i < 8; i++) {
            long noisy = eight >>> 8 * i & 255 | 0xfedcba9876543200L;
            parts.then("feed(" + noisy + ", 1)", i + 1);
        }
        parts.then("read()", 1).asks("sightOf(0, 4)", 77);
        Run seven = ruled("23: the highest byte of eight is the eighth").does("feed(" + eight + ", 7)").then("read()", -107);
        seven.asks("sightOf(0, 4)", 0);
        Run high = ruled("23: a byte may be 128 to 255").does("feed(" + Long.MIN_VALUE + ", 8)").then("read()", -100);
        high.asks("many(7)", 0).does("feed(-1, 8)").then("read()", -100);
    }

    private static void tapeAtMost() {
        String sentence = "THE TAPE takes bytes, 200 at most; 23: FULL: more than 200";
        Run run = run(sentence).feeds(" ".repeat(192)).asks("many(7)", 192);
        run.asks("feed(32, 8)", 200).asks("feed(32, 1)", 193);
        run.feeds("  ").refuses("feed(32, #)", Run.FULL, 7, 8).asks("feed(32, 6)", 200);
        run.feeds("     ").asks("many(7)", 199).refuses("feed(32, #)", Run.FULL, 2, 3, 4, 5, 6, 7, 8).then("feed(32, 1)", 200);
        run.refuses("feed(32, #)", Run.FULL, 1, 2, 3, 4, 5, 6, 7, 8).asks("many(7)", 200);
        run.then("read()", 0).asks("feed(32, 8)", 8).feeds(" ".repeat(200)).refuses("feed(32, 1)", Run.FULL);
        Houses.full(run(sentence)).refuses("feed(59, #)", Run.FULL, 1, 8);
    }

    private static void feedBadAheadOfFull() {
        Houses.full(run("23: BAD; FULL")).refuses("feed(0, #)", Run.BAD, 0, 9, -1, MIN, MAX);
        run("23: BAD; FULL").feeds(" ".repeat(199)).refuses("feed(0, #)", Run.BAD, 0, 9, 10, MAX);
    }

    private static void readUsesItUp() {
        Run run = ruled("read() uses it up").feeds("bend 7;").asks("many(7)", 7).then("read()", 1).asks("many(7)", 0);
        run.asks("sightOf(#, 4)", 7, 0, 1, 2).then("feed(32, 1)", 1);
        Run fault = ruled("THE TAPE is used up by read(), by a faulty one too").feeds("bend 7").asks("many(7)", 6);
        fault.then("read()", -106).asks("many(7)", 0).feeds(";").asks("many(7)", 1).then("read()", -100);
    }

    private static void readOfNothing() {
        String sentence = "24: an empty TAPE is a LAW of no LINES";
        run(sentence).leaves("read()", 0);
        Run run = ruled(sentence).asks("many(5)", 2).asks("sightOf(2, 4)", 9).then("read()", 0).asks("many(5)", 0);
        run.asks("sightOf(#, 4)", 0, 0, 1, 2).leaves("read()", 0);
        Run blank = ruled("24: blanks alone are a LAW of no LINES").feeds("   ").then("read()", 0).asks("many(5)", 0);
        blank.asks("sightOf(2, 4)", 0);
    }

    private static void readOfAFullTape() {
        String long200 = "bend 7" + " ".repeat(193) + ";";
        ruled("24: a TEXT of 200 bytes").feeds(long200).asks("many(7)", 200).then("read()", 1).asks("sightOf(0, 4)", 7);
        ruled("24: FAULT at the end of 200 bytes").refusesText("bend 7" + " ".repeat(194), -300);
        ruled("24: FAULT at the last of 200 bytes").refusesText("bend 7" + " ".repeat(193) + "$", -299);
    }

    private static void faultChangesNothing() {
        Run run = ruled("24: -100 less its FAULT; such a call changes nothing but that THE TAPE is used up");
        run.refusesText("bend 1; bend 2; bend 3; bend x;", -129).refusesText("bend 1 if heat < 3", -118);
        run.refusesText(EIGHT_LINES + "bend 9;", -156).refusesText("x", -100);
        run.asks("sightOf(0, 4)", 0).asks("sightOf(1, 4)", 4).asks("sightOf(2, 4)", 9);
        Run none = run("24: a faulty TEXT where there is no LAW").refusesText("bend 1; bend", -112);
        none.asks("many(5)", 0);
    }

    private static void faultAtTheFirstAndTheLast() {
        Run run = ruled("FAULT: the place (from 0) of the first byte of the first ..");
        run.refusesText("$", -100).refusesText(" $", -101).refusesText("if", -100).refusesText("   if", -103);
        run.refusesText("7", -100).refusesText("bend", -104).refusesText("bend 1;;", -107).refusesText("bend 1; ;", -108);
        run.refusesText("bend 1; bend 1 $ $", -115).refusesText("bend 100 1000", -105);
    }

    private static void linesAtMost() {
        Run run = ruled("8 LINES at most; FAULT: the ninth LINE: its WORD");
        for (int lines = 1; lines <= 8; lines++) {
            String text = EIGHT_LINES.substring(0, 7 * lines);
            run.asksText(text, lines);
            Run told = ruled("TOLD by the last of " + lines + " LINES").reads(text).asks("many(5)", lines);
            told.asks("sightOf(0, 4)", lines);
        }
        run.asksText(EIGHT_LINES + "  ", 8);
        run.refusesText(EIGHT_LINES + "bend 9;", -156).refusesText(EIGHT_LINES + "  bend", -158);
        run.refusesText(EIGHT_LINES + ";", -156).refusesText(EIGHT_LINES + "x", -156);
    }

    private static void bendNumber() {
        Run run = ruled("bend N (N 0 to 99)");
        run.asksText("bend 0;", 1).asksText("bend 99;", 1).asksText("bend 00;", 1).asksText("bend 099;", 1);
        run.refusesText("bend 100;", -105).refusesText("bend 999;", -105).refusesText("bend  100 if", -106);
        run.refusesText("bend 1;bend 100;", -112).refusesText("bend -1;", -105).refusesText("bend ;", -105);
        ruled("bend N: the least").reads("bend 0;").asks("sightOf(#, 4)", 0, 0, 1, 2);
        ruled("bend N: the greatest").reads("bend 99;").asks("sightOf(#, 4)", 99, 0, 1, 2);
    }

    private static void valueNumber() {
        Run run = ruled("VALUE: N is 0 to 999");
        run.asksText("bend 1 if 0<1;", 1).asksText("bend 1 if 999>heat;", 1).asksText("bend 1 if 100=999;", 1);
        run.refusesText("bend 1 if 1000>heat;", -110).refusesText("bend 1 if heat<1000;", -115);
        ruled("VALUE: the greatest").reads("bend 1 if 999>998;").asks("sightOf(0, 4)", 1);
        ruled("VALUE: the greatest is not less").reads("bend 1 if 999<998;").asks("sightOf(0, 4)", 0);
        ruled("VALUE: the least").reads("bend 1 if heat=0;").asks("sightOf(0, 4)", 1).asks("sightOf(1, 4)", 0);
        ruled("VALUE: leading digits 0").reads("bend 1 if 020=away;").asks("sightOf(0, 4)", 1);
    }

    private static void digitsAtMost() {
        Run run = ruled("NUMBERS: rows of digits (3 at most), as long as they go");
        run.asksText("bend 001;", 1).asksText("bend 000;", 1).asksText("bend 1 if 007=007;", 1);
        run.refusesText("bend 0001;", -105).refusesText("bend 0000;", -105).refusesText("bend 1 if 0007=7;", -110);
        run.refusesText("bend 1 if 7=0007;", -112).refusesText("bend " + "9".repeat(60) + ";", -105);
        run.refusesText("bend 4294967297;", -105).refusesText("bend 1 if 4294967296=0;", -110);
        run.refusesText("bend 1 2;", -107).refusesText("bend 1 if 1 0=10;", -112);
    }

    private static void digitBytes() {
        Run run = ruled("NUMBERS are rows of digits: 0 to 9 alone");
        run.asksText("bend 90;", 1).asksText("bend 09;", 1);
        run.refusesText("bend 1/;", -106).refusesText("bend 1:;", -106).refusesText("bend /;", -105).refusesText("bend :;", -105);
        run.refusesText("bend 1" + (char) 0xb2 + ";", -106).refusesText("bend 1.0;", -106).refusesText("bend +1;", -105);
    }

    private static void wordBytes() {
        Run run = ruled("WORDS are rows of letters a to z");
        run.refusesText("Bend 1;", -100).refusesText("benD 1;", -100).refusesText("bend` 1;", -104);
        run.refusesText("bend{ 1;", -104).refusesText("`bend 1;", -100).refusesText("bend 1 if heat{<1;", -114);
        run.refusesText("bend 1 if heatZ<1;", -114).refusesText("be" + (char) 0xe4 + "nd 1;", -100).refusesText("bend_1;", -104);
        run.refusesText("bendz 1;", -100).refusesText("benda 1;", -100).refusesText("bend 1 if heatz<1;", -110);
        run.refusesText("aaaa 1;", -100).refusesText("zzzz 1;", -100).refusesText("bend 1 if zzzz=1;", -110);
    }

    private static void wordsAsLongAsTheyGo() {
        Run run = ruled("WORDS and NUMBERS go as long as they go; blanks between");
        run.asksText("bend1if1=1and heat<3or hour=2;", 1).asksText("bend7;bend8;", 2).asksText("bend 1 if not not 1=1;", 1);
        run.refusesText("abend 1;", -100).refusesText("bend 1 if aheat<1;", -110).refusesText("bend 1 aif 1=1;", -107);
        run.refusesText("bend 1 if 1=1 aor 1=1;", -114).refusesText("bend 1 if anot 1=1;", -110);
        run.refusesText("bendbend 1;", -100).refusesText("bends 1;", -100).refusesText("ben d 1;", -100);
        run.refusesText("bend 1 ifheat<1;", -107).refusesText("bend 1 i f 1=1;", -107).refusesText("bend 1 if notheat<1;", -110);
        run.refusesText("bend 1 if 1=1 andhour<2;", -114).refusesText("bend 1 if heat<1 ornot hour<1;", -117);
        run.refusesText("bend 1 if heathour<1;", -110).refusesText("bend 1 if hea t<1;", -110).refusesText("b", -100);
        run.refusesText("bend 1 if 1=1 an", -114).refusesText("bend 1 if 1=1 an d 1=1;", -114).refusesText("bend 1 i", -107);
        run.refusesText("a".repeat(200), -100).refusesText("bend 1 if " + "heat".repeat(40), -110);
    }

    private static void blanks() {
        Run run = ruled("blanks (32) between");
        run.asksText("   bend   7   if   (   1   =   1   )   ;   ", 1).asksText("bend 7;   bend 8;   ", 2);
        int[] others = {0, 9, 10, 11, 12, 13, 31, 33, 127, 128, 133, 160, 255};
        for (int other : others) {
            run.refusesText((char) other + "bend 7;", -100).refusesText("bend" + (char) other + "7;", -104);
            run.refusesText("bend 7;" + (char) other, -107);
        }
    }

    /** Of all bytes only those of a TEXT go on at a place. */
    private static void otherBytes() {
        String[] ahead = {"", "bend 7 ", "bend 7 if ", "bend 7 if 1 ", "bend 7 if 1=1 ", "bend 7 if (1=1 ", "bend 7; "};
        String[] may = {" ", "; ", "( 0123456789", "<=> ", "; ", ") ", " "};
        for (int i = 0; i < ahead.length; i++) {
            for (int other = 0; other < 256; other++) {
                boolean letter = other >= 'a' && other <= 'z';
                if (letter || may[i].indexOf(other) >= 0) {
                    continue;
                }
                Run run = run("FAULT: other byte " + other + " with which no TEXT goes on");
                run.asksText(ahead[i] + (char) other, -100 - ahead[i].length());
            }
        }
    }

    private static void bracketsAtMost() {
        Run run = ruled("At most 3 \"(\" are open within one another; FAULT: the fourth \"(\"");
        run.asksText("bend 1 if (1=1);", 1).asksText("bend 1 if ((1=1));", 1).asksText("bend 1 if (((1=1)));", 1);
        run.refusesText("bend 1 if ((((1=1))));", -113).refusesText("bend 1 if ((((", -113);
        run.refusesText("bend 1 if not (not (not (not (1=1))));", -129).refusesText("bend 1 if (1=1 and (2=2 or (3=3 and (", -136);
        run.asksText("bend 1 if (((1=1)))and(((1=1)))or(((1=1)));", 1).asksText("bend 1 if (1=1 and((1=1)or(1=1))and((1=1)));", 1);
        run.refusesText("bend 1 if (((1=1) and ((1=1))));", -123).refusesText("bend 1 if (((1=1)))and((((1=1))));", -125);
        run.asksText("bend 1 if (((1=1)));bend 2 if (((1=1)));", 2).refusesText("bend 1 if (((1=1)));bend 2 if ((((", -133);
    }

    private static void bracketsClose() {
        Run run = ruled("\"(\" COND \")\"");
        run.refusesText("bend 1 if ();", -111).refusesText("bend 1 if (1);", -112).refusesText("bend 1 if (1=1;", -114);
        run.refusesText("bend 1 if 1=1);", -113).refusesText("bend 1 if (1=1));", -115).refusesText("bend 1 if (1=1", -114);
        run.refusesText("bend 1 if (1)=1;", -112).refusesText("bend (1);", -105).refusesText("bend 1 if )1=1(;", -110);
    }

    private static final String[] WHOLE = {"bend", "12", "if", "not", "(", "heat", "<", "30", "or", "away", ">", "5", ")",
        "and", "kind", "=", "2", ";"};

    private static void endIfMoreMustCome() {
        Run run = ruled("FAULT: the end (how many bytes there are), if more must come");
        StringBuilder text = new StringBuilder();
        for (int i = 0; i < WHOLE.length - 1; i++) {
            text.append(i == 0 ? "" : " ").append(WHOLE[i]);
            run.refusesText(text.toString(), -100 - text.length());
            run.refusesText(text + "  ", -100 - text.length() - 2);
            run.refusesText("bend 1;" + text, -107 - text.length());
        }
        run.asksText(text + " ;", 1).asksText(text + ";" + text + ";", 2);
    }

    private static final Set<String> COND = Set.of("not", "(", "5", "100", "heat", "hour", "away", "kind");
    private static final Set<String> COND_WITHIN_3 = Set.of("not", "5", "100", "heat", "hour", "away", "kind");
    private static final Set<String> VALUE = Set.of("5", "100", "heat", "hour", "away", "kind");
    private static final Set<String> SIGN = Set.of("<", "=", ">");

    private static void noTextGoesOn() {
        goesOn("", Set.of("bend"));
        goesOn("bend", Set.of("5"));
        goesOn("bend 5", Set.of("if", ";"));
        goesOn("bend 5 if", COND);
        goesOn("bend 5 if not", COND);
        goesOn("bend 5 if not not", COND);
        goesOn("bend 5 if (", COND);
        goesOn("bend 5 if ( (", COND);
        goesOn("bend 5 if ( ( (", COND_WITHIN_3);
        goesOn("bend 5 if ( ( ( not", COND_WITHIN_3);
        goesOn("bend 5 if ( ( ( 1 = 1 and", COND_WITHIN_3);
        goesOn("bend 5 if ( ( ( 1 = 1 )", Set.of("and", "or", ")"));
        goesOn("bend 5 if ( ( ( 1 = 1 ) or", COND);
        goesOn("bend 5 if heat", SIGN);
        goesOn("bend 5 if 100", SIGN);
        goesOn("bend 5 if not kind", SIGN);
        goesOn("bend 5 if heat <", VALUE);
        goesOn("bend 5 if 5 =", VALUE);
        goesOn("bend 5 if away >", VALUE);
        goesOn("bend 5 if heat < 5", Set.of("and", "or", ";"));
        goesOn("bend 5 if heat < hour", Set.of("and", "or", ";"));
        goesOn("bend 5 if ( heat < 5", Set.of("and", "or", ")"));
        goesOn("bend 5 if ( heat < 5 )", Set.of("and", "or", ";"));
        goesOn("bend 5 if 1 = 1 and", COND);
        goesOn("bend 5 if 1 = 1 or", COND);
        goesOn("bend 5 ;", Set.of("bend"));
        goesOn("bend 5 if 1 = 1 ;", Set.of("bend"));
        goesOn(EIGHT_LINES, Set.of());
    }

    private static final String[] TOKENS = {"bend", "if", "and", "or", "not", "heat", "hour", "away", "kind", "5", "100",
        "1000", "<", "=", ">", "(", ")", ";", "x", "nota", "$", ",", "-", "!"};

    /** Which of all tokens may come behind a text; others are its FAULT, at their own place. */
    private static void goesOn(String ahead, Set<String> may) {
        List<String> unknown = new ArrayList<>(may);
        for (String token : TOKENS) {
            unknown.remove(token);
            String text = ahead.isEmpty() ? token : ahead + " " + token;
            Run run = ruled("FAULT: .. with which no TEXT goes on, or that is not as told");
            if (!may.contains(token)) {
                run.refusesText(text, -100 - text.length() + token.length());
            } else if (token.equals(";")) {
                run.asksText(text, 1);
            } else {
                run.refusesText(text, -100 - text.length());
            }
        }
        CHECKS.holds("all tokens are tried: " + unknown, unknown.isEmpty());
    }

    /** As many comparisons, as many "not" as 200 bytes have room for. */
    private static void manySteps() {
        Run run = ruled("a TEXT of 200 bytes full of steps");
        String ors = "bend7if" + "0=1or".repeat(37);
        run.asksText(ors + "1=1;", 1).asksText("bend7if" + "1=1and".repeat(31) + "1=1;", 1);
        ruled("the last of many holds").reads(ors + "1=1;").asks("sightOf(0, 4)", 7);
        ruled("the first of many holds").reads("bend7if1=1" + "or0=1".repeat(37) + ";").asks("sightOf(0, 4)", 7);
        ruled("the first of many doesn't hold").reads("bend7if0=1" + "and1=1".repeat(31) + ";").asks("sightOf(0, 4)", 0);
        ruled("none of many holds").reads(ors + "0=1;").asks("sightOf(0, 4)", 0);
        ruled("all of many hold").reads("bend7if" + "1=1and".repeat(31) + "1=1;").asks("sightOf(0, 4)", 7);
        ruled("the last of many doesn't hold").reads("bend7if" + "1=1and".repeat(31) + "0=1;").asks("sightOf(0, 4)", 0);
        ruled("47 times not").reads("bend7if" + " not".repeat(47) + "0=1;").asks("sightOf(0, 4)", 7).asks("many(5)", 1);
        ruled("46 times not").reads("bend7if" + " not".repeat(46) + "0=1;").asks("sightOf(0, 4)", 0).asks("many(5)", 1);
        ruled("45 times not").reads("bend7if" + " not".repeat(45) + "(0=1);").asks("sightOf(0, 4)", 7).asks("many(5)", 1);
        String eight = "bend1if1=1;bend2if1=1;bend3if1=1;bend4if1=1;bend5if1=1;bend6if1=1;bend7if1=1;bend8if";
        ruled("8 LINES, the last one long").reads(eight + "0=1or".repeat(21) + "1=1;").asks("sightOf(0, 4)", 8);
        ruled("8 LINES, the last one doesn't hold").reads(eight + "0=1or".repeat(21) + "0=1;").asks("sightOf(0, 4)", 7);
    }
}
