/** Promises 23 and 24: the tape, the law and its fault. */
public final class LawTest {
    private static final Checks CHECKS = new Checks("LawTest");

    public static void main(String[] args) {
        feed();
        readUsesTheTapeUp();
        faults();
        texts();
        told();
        CHECKS.end();
    }

    private static void feed() {
        FarHeights x = new FarHeights();
        CHECKS.due("feed 0 bytes", x.feed(0, 0), -1);
        CHECKS.due("feed 9 bytes", x.feed(0, 9), -1);
        CHECKS.due("feed -1 bytes", x.feed(0, -1), -1);
        for (int i = 1; i <= 24; i++) {
            CHECKS.due("feed 8 bytes", x.feed(0x2020202020202020L, 8), 8 * i);
        }
        CHECKS.due("feed 7 more", x.feed(0x2020202020202020L, 7), 199);
        CHECKS.due("feed 2 more", x.feed(0x2020L, 2), -2);
        CHECKS.due("bad goes ahead", x.feed(0, 9), -1);
        CHECKS.due("feed 1 more", x.feed(0x20L, 1), 200);
        CHECKS.due("feed one too many", x.feed(0x20L, 1), -2);
        CHECKS.due("many(7)", x.many(7), 200);
        CHECKS.due("200 blanks are no lines", x.read(), 0);
        CHECKS.due("the tape is used up", x.many(7), 0);
        CHECKS.due("bytes above n are left away", x.feed(-1L << 8 | 'b', 1), 1);
        CHECKS.due("the lowest comes first", x.feed('n' << 8 | 'e', 2), 3);
        x.feed('d' | '5' << 8 | ';' << 16, 3);
        CHECKS.due("bend5;", x.read(), 1);
    }

    private static void readUsesTheTapeUp() {
        FarHeights x = new FarHeights();
        CHECKS.due("two lines", Checks.readText(x, "bend 1; bend 2;"), 2);
        CHECKS.due("many(5)", x.many(5), 2);
        CHECKS.due("a faulty text", Checks.readText(x, "bend 1; bend x;"), -113);
        CHECKS.due("the tape is used up", x.many(7), 0);
        CHECKS.due("the law stays", x.many(5), 2);
        CHECKS.due("an empty text", x.read(), 0);
        CHECKS.due("is a law without lines", x.many(5), 0);
    }

    private static void fault(String text, int place) {
        FarHeights x = new FarHeights();
        CHECKS.due("read(" + text + ")", Checks.readText(x, text), -100 - place);
    }

    private static void faults() {
        fault("bend", 4);
        fault("bend  ", 6);
        fault("  bnd 1;", 2);
        fault("bendx 1;", 0);
        fault("bendz 1;", 0);
        fault("abend 1;", 0);
        fault("bend 1 ifz 1=1;", 7);
        fault("ben", 0);
        fault("Bend 1;", 0);
        fault("bend 100;", 5);
        fault("bend 0099;", 5);
        fault("bend 1", 6);
        fault("bend 1 ;;", 8);
        fault("bend 1 2;", 7);
        fault("bend -1;", 5);
        fault("bend heat;", 5);
        fault("bend 1 if;", 9);
        fault("bend 1 if", 9);
        fault("bend 1 if heat;", 14);
        fault("bend 1 if heat <", 16);
        fault("bend 1 if heat < ;", 17);
        fault("bend 1 if heat <= 3;", 16);
        fault("bend 1 if heat < 1000;", 17);
        fault("bend 1 if 99999999999 < 1;", 10);
        fault("bend 1 if heats < 1;", 10);
        fault("bend 1 if hea < 1;", 10);
        fault("bend 1 if heat < 1 and;", 22);
        fault("bend 1 if heat < 1 or and 1=1;", 22);
        fault("bend 1 if heat < 1 xor 1=1;", 19);
        fault("bend 1 if heat < 1 < 2;", 19);
        fault("bend 1 if not;", 13);
        fault("bend 1 if notnot 1=1;", 10);
        fault("bend 1 if 1 not = 2;", 12);
        fault("bend 1 if (1=1;", 14);
        fault("bend 1 if (1=1", 14);
        fault("bend 1 if 1=1);", 13);
        fault("bend 1 if ();", 11);
        fault("bend 1 if (1)=1;", 12);
        fault("bend 1 if (1=1) = 1;", 16);
        fault("bend 1 if ((((1=1))));", 13);
        fault("bend 1 if (((1=1) and (2=2) or (((3=3)))));", 32);
        fault("bend 1;\tbend 2;", 7);
        fault("bend 1; bend 2; if", 16);
        fault("bend 1\u00ff;", 6);
        fault("bend 1\u0000;", 6);
        fault("bend 1;bend 1;bend 1;bend 1;bend 1;bend 1;bend 1;bend 1; bend", 57);
        fault("bend 1;bend 1;bend 1;bend 1;bend 1;bend 1;bend 1;bend 1; bent", 57);
        fault("bend 1 if 1=1 if 2=2;", 14);
        fault("bend 1 and 1=1;", 7);
    }

    private static void lines(String text, int lines) {
        FarHeights x = new FarHeights();
        CHECKS.due("read(" + text + ")", Checks.readText(x, text), lines);
        CHECKS.due("lines of " + text, x.many(5), lines);
    }

    private static void texts() {
        lines("bend 0;", 1);
        lines("bend99;bend 099 ; ", 2);
        lines("bend 1if heat<1and hour>2or 3=away;", 1);
        lines("bend 1 if(1=1)and(not((2=2)or(3=3)and 4=4));", 1);
        lines("bend 1 if (((1=1))) and (((2=2))) or (((3=3)));", 1);
        lines("bend 1 if not not not (not not 1 < 999);", 1);
        lines("bend 1;bend 2;bend 3;bend 4;bend 5;bend 6;bend 7;bend 8;   ", 8);
        lines("bend1if1=1;", 1);
    }

    private static void told(String text, int want) {
        FarHeights x = new FarHeights();
        x.station(0);
        x.point(77, 0);
        x.sight(4, 0, 0, 0, 1530);
        Checks.readText(x, text);
        CHECKS.due("told by " + text, x.sightOf(0, 4), want);
    }

    private static void told() {
        told("", 0);
        told("bend 5;", 5);
        told("bend 5; bend 6;", 6);
        told("bend 5; bend 6 if heat > 30;", 5);
        told("bend 6 if heat > 30;", 0);
        told("bend 6 if heat > 29; bend 7 if heat < 30; bend 8 if heat = 31;", 6);
        told("bend 6 if hour = 15;", 6);
        told("bend 6 if away = 77;", 6);
        told("bend 6 if kind = 4;", 6);
        told("bend 6 if 15 = hour and 4 = kind and 30 = heat and 77 = away;", 6);
        told("bend 6 if heat = heat and 3 < 4 and hour < heat and away > heat;", 6);
        told("bend 6 if 1 = 1 or 1 = 1 and 1 = 2;", 6);
        told("bend 6 if (1 = 1 or 1 = 1) and 1 = 2;", 0);
        told("bend 6 if 1 = 2 and 1 = 2 or 1 = 1;", 6);
        told("bend 6 if 1 = 2 and (1 = 2 or 1 = 1);", 0);
        told("bend 6 if not 1 = 2 and 1 = 2;", 0);
        told("bend 6 if not (1 = 2 and 1 = 2);", 6);
        told("bend 6 if not not 1 = 1;", 6);
        told("bend 6 if not 1 = 1 or 1 = 1;", 6);
        told("bend 6 if not (1 = 1 or 1 = 1);", 0);
        told("bend 6 if 007 = 7;", 6);
        told("bend1if1=2" + "or1=2".repeat(36) + "or1=1;", 1);
        told("bend1if1=2" + "or1=2".repeat(37) + ";", 0);
        told("bend1if " + "not ".repeat(46) + "1=1;", 1);
        told("bend1if " + "not ".repeat(45) + "1=1;", 0);
        told("bend 0; bend 06 if 1 > 2 or (2 > 3 or (3 > 4 or (4 > 3 and 1 < 2)));", 6);
    }
}
