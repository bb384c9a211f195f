import java.util.ArrayList;
import java.util.List;
import java.util.function.Supplier;

/**
 * All that can be seen of an object. Some looks change it (a mass is told when it becomes another one), and no
 * object has calls enough for all of them: so each part is looked at on an object of its own.
 */
final class Looks {
    private static final String HOURS = bounds("hour", 3);
    private static final String HEATS = bounds("heat", 5);

    private final Run.Doing doing;
    private final FarHeights x;
    private final String part;
    private final List<String> seen;

    private Looks(String part, Run.Doing doing, List<String> seen) {
        this.part = part;
        this.doing = doing;
        this.x = doing.x;
        this.seen = seen;
    }

    static List<String> at(Supplier<Run.Doing> made) {
        List<String> seen = new ArrayList<>();
        new Looks("", made.get(), seen).lookAtHeights();
        new Looks("", made.get(), seen).lookAtSights();
        new Looks("", made.get(), seen).lookAtHours();
        new Looks("", made.get(), seen).lookAtTape(false);
        new Looks("", made.get(), seen).lookAtTape(true);
        new Looks("", made.get(), seen).lookAtHost();
        new Looks("kept ", made.get(), seen).lookBack().lookAtHeights();
        new Looks("kept ", made.get(), seen).lookBack().lookAtSights();
        new Looks("kept ", made.get(), seen).lookBack().lookAtHours();
        return seen;
    }

    private void see(String call, long answer) {
        doing.count();
        seen.add(part + call + " " + answer);
    }

    private Looks lookBack() {
        see("back", x.back());
        return this;
    }

    private void lookAtHeights() {
        for (int what = 0; what <= 8; what++) {
            see("many " + what, x.many(what));
        }
        see("again", x.again());
        for (int s = 0; s < 6; s++) {
            for (int what = 0; what <= 4; what++) {
                see("stationOf " + s + " " + what, x.stationOf(s, what));
            }
            see("mayBe " + s, x.mayBe(s, 10, 1220));
            for (int q = 0; q < 8; q++) {
                see("behind " + s + " " + q, x.behind(s, q));
            }
        }
        for (int p = 0; p < 8; p++) {
            see("low " + p, x.span(p, 0));
            see("high " + p, x.span(p, 1));
            see("said " + p, x.said(p));
            see("counted " + p, x.counted(p));
            see("next " + p, x.next(p, 4));
            see("above " + p, x.highest(p, 0));
            see("below " + p, x.highest(p, 1));
        }
        see("masses", x.masses(0));
        for (int p = 0; p < 8; p++) {
            see("mass " + p, x.mass(p, 0));
        }
        for (int leg = 0; leg < 12; leg++) {
            see("rise " + leg, x.mend(leg, 0, 0));
            see("slip " + leg, x.mend(leg, 1, 1));
        }
    }

    private void lookAtSights() {
        for (int k = 0; k < 24; k++) {
            for (int what = 0; what <= 7; what++) {
                see("sightOf " + k + " " + what, x.sightOf(k, what));
            }
            see("foot " + k, x.foot(k, 0));
            see("least " + k, x.foot(k, 1));
            see("hangs " + k, x.hangs(k));
        }
    }

    /** An hour or a heat is seen by what a law tells of it. */
    private void lookAtHours() {
        see("read ahead of hours", x.read());
        lookThrough(HOURS);
        lookThrough(HEATS);
        see("a new station", x.station(50));
        see("a new point", x.point(500, 5));
        see("a new leg", x.leg(0, 1, 1, 1));
        see("a new sight", x.sight(1, 0, 0, 0, 0));
    }

    private void lookThrough(String law) {
        for (int at = 0; at < law.length(); at += 8) {
            long eight = 0;
            int n = Math.min(8, law.length() - at);
            for (int i = 0; i < n; i++) {
                eight |= (long) law.charAt(at + i) << 8 * i;
            }
            see("fed", x.feed(eight, n));
        }
        see("read", x.read());
        lookAtTold();
    }

    private void lookAtTold() {
        for (int k = 0; k < 24; k++) {
            see("told " + k, x.sightOf(k, 4));
        }
    }

    private void lookAtTape(boolean ended) {
        if (ended) {
            see("one byte more", x.feed(';', 1));
        }
        see("read", x.read());
        see("lines", x.many(5));
        lookAtTold();
    }

    private void lookAtHost() {
        for (int i = 0; i < 10; i++) {
            see("trace " + i, x.trace(i));
        }
        for (int i = 0; i < 6; i++) {
            for (int what = 0; what <= 2; what++) {
                see("row " + i + " " + what, x.row(i, what));
            }
        }
        see("judge", x.judge());
        for (int sheet = 0; sheet < 4; sheet++) {
            lookAtSheet(sheet);
        }
        for (int shelf = 0; shelf < 4; shelf++) {
            for (int as = 0; as <= 13; as++) {
                see("taken " + shelf + " " + as, x.taken(shelf, as));
            }
            see("act " + shelf, x.act(shelf, 3, 5));
        }
    }

    private void lookAtSheet(int sheet) {
        for (int sort = 0; sort <= 3; sort++) {
            see("sort " + sheet + " " + sort, x.item(sheet, sort, -1));
        }
        int sort = 0;
        while (sort < 3 && x.item(sheet, sort, -1) != -12) {
            doing.count();
            sort++;
        }
        for (int i = 0; i <= 40; i += 1) {
            see("item " + sheet + " " + i, x.item(sheet, sort, i));
        }
    }

    private static String bounds(String name, int by) {
        StringBuilder law = new StringBuilder();
        for (int line = 1; line <= 8; line++) {
            law.append("bend ").append(line).append(" if ").append(name).append('>').append(line * by - 1).append(';');
        }
        return law.toString();
    }
}
