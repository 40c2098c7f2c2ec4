/** The boundary cases of POWER, of an HOUR and of what is asked of HOURS: each sentence in a test of its own. */
public final class HoursEdgesTest {
    private static final Due due = new Due("HoursEdgesTest");
    private static String words = "";

    public static void main(String[] args) {
        powerOfACrane();
        powerOfAJib();
        powerOfAnOld();
        powerOfASteady();
        powerOfAGiant();
        powerOfARusty();
        powerOfATold();
        lifting();
        swingAtMost();
        swingMoreThanBear();
        timeAsHang();
        fallenAheadOfLaid();
        freshWhenHung();
        oneAtMost();
        theFirstOfThem();
        noneAtAll();
        fourStates();
        lastHours();
        beyondTheLastHour();
        liftsGoOn();
        onHours();
        downHours();
        downOfEachState();
        sentSoonest();
        sentToNone();
        changeHours();
        changeToNone();
        changeOfFewest();
        crewHours();
        crewOfFewest();
        due.end();
    }

    private static void says(String sentence) {
        words = sentence;
    }

    private static void is(String what, long got, long want) {
        due.is(words + ": " + what, got, want);
    }

    private static void passTo(GriefCranes x, int hour) {
        while (x.told(0) < hour) x.pass(Math.min(60, hour - x.told(0)));
    }

    /** The POWER of a CRANE of a KIND for the only THING. */
    private static int power(String firm, int kind, int v, int grief, int wind) {
        GriefCranes x = Make.with(firm);
        x.crane(kind, v);
        x.thing(grief, 0);
        x.wind(0, wind);
        return x.of(0, 10);
    }

    private static void powerOfACrane() {
        says("CRANE: SUM (may be below 0)");
        is("0", power("weak 30 p=0", 0, 9, 99, 9), 0);
        is("below 0", power("weak 31 p=0", 0, 9, 99, 9), -1);
        is("without a FIRM", power("", 0, 9, 99, 9), 30);
    }

    private static void powerOfAJib() {
        says("JIB: SUM and v");
        is("v 0", power("", 1, 0, 99, 9), 30);
        is("v 9", power("", 1, 9, 99, 9), 39);
        is("up to 0", power("weak 39 p=0", 1, 9, 0, 0), 0);
        is("below 0", power("weak 40 p=0", 1, 9, 0, 0), -1);
    }

    private static void powerOfAnOld() {
        says("OLD: the half (cut toward 0) of SUM, and 10 more than that half");
        int[][] rows = {{30, 10}, {31, 10}, {29, 10}, {32, 9}, {28, 11}, {33, 9}, {99, -24}, {98, -24}, {50, 0}, {51, 0}, {52, -1}};
        for (int[] row : rows) is("weak " + row[0], power("weak " + row[0] + " p=0", 2, 9, 99, 9), row[1]);
        is("strong 1", power("strong 1 p=0", 2, 9, 99, 9), 25);
        is("strong 2", power("strong 2 p=0", 2, 9, 99, 9), 26);
    }

    private static void powerOfASteady() {
        says("STEADY: SUM; 0, if WIND of the HOUR is more than v");
        for (int v = 0; v <= 9; v++) {
            for (int wind = 0; wind <= 9; wind++) {
                is("v " + v + ", WIND " + wind, power("", 3, v, 0, wind), wind > v ? 0 : 30);
                is("below 0: v " + v + ", WIND " + wind, power("weak 40 p=0", 3, v, 0, wind), wind > v ? 0 : -10);
            }
        }
    }

    private static void powerOfAGiant() {
        says("GIANT: as JIB; twice that, if GRIEF is 50 or more");
        int[][] rows = {{0, 32}, {49, 32}, {50, 64}, {51, 64}, {99, 64}};
        for (int[] row : rows) is("GRIEF " + row[0], power("", 4, 2, row[0], 9), row[1]);
        is("below 0, GRIEF 49", power("weak 40 p=0", 4, 2, 49, 9), -8);
        is("below 0, GRIEF 50", power("weak 40 p=0", 4, 2, 50, 9), -16);
    }

    /** A RUSTY one that has laid 8 THINGS; THING 0 of a GRIEF, the others of 0. */
    private static GriefCranes laidEight(int grief) {
        GriefCranes x = Make.with("hang 0");
        x.crane(5, 0);
        for (int t = 0; t < 8; t++) x.thing(t == 0 ? grief : 0, 0);
        x.pass(16);
        return x;
    }

    private static void standAndGo(GriefCranes x, int thing) {
        x.plan(3, thing);
        x.plan(0, 0);
        x.plan(0, 0);
    }

    private static void powerOfARusty() {
        says("RUSTY: as OLD, less LIFTS (9 at most)");
        GriefCranes x = laidEight(25);
        is("LIFTS", x.of(0, 2), 8);
        is("POWER behind 8", x.of(0, 10), 17);
        // how often others are LAID ahead of THING 0, its GRIEF, whether it is LAID again
        int[][] rows = {{0, 17, 1}, {0, 18, 0}, {1, 16, 1}, {1, 17, 0}, {2, 16, 1}, {2, 17, 0}, {2, 15, 1}};
        for (int[] row : rows) {
            GriefCranes y = laidEight(row[1]);
            for (int i = 0; i < row[0]; i++) standAndGo(y, 7 - i);
            standAndGo(y, 0);
            is("GRIEF " + row[1] + " behind LIFTS " + (8 + row[0]), y.ends(0), 7 + row[2]);
        }
        is("below 0", power("weak 99 p=0", 5, 0, 0, 0), -24);
    }

    private static void powerOfATold() {
        says("TOLD: as STEADY, and its ROW (four numbers 0 .. 9; 0 at first) at THING modulo 4 more");
        GriefCranes x = new GriefCranes();
        x.crane(6, 2);
        for (int t = 0; t < 8; t++) x.thing(0, -1);
        for (int t = 0; t < 8; t++) is("at first, THING " + t, x.of(0, 10 + t), 30);
        x.row(0, 0, 9);
        x.row(0, 3, 1);
        int[] rows = {9, 0, 0, 1, 9, 0, 0, 1};
        for (int t = 0; t < 8; t++) is("THING " + t, x.of(0, 10 + t), 30 + rows[t]);
        x.wind(0, 3);
        for (int t = 0; t < 8; t++) is("WIND above v, THING " + t, x.of(0, 10 + t), rows[t]);
    }

    /** Whether a CRANE of a POWER hangs a THING of a GRIEF. */
    private static int hangs(String firm, int grief) {
        GriefCranes x = Make.with(firm);
        x.crane(0, 0);
        x.thing(grief, 0);
        x.pass(1);
        return x.load(0, 2);
    }

    private static void lifting() {
        says("it can LIFT it, if POWER is GRIEF or more");
        is("POWER 99, GRIEF 99", hangs("strong 69 p=0", 99), 1);
        is("POWER 98, GRIEF 99", hangs("strong 68 p=0", 99), 0);
        is("POWER 0, GRIEF 0", hangs("weak 30 p=0", 0), 1);
        is("POWER -1, GRIEF 0", hangs("weak 31 p=0", 0), 0);
        is("POWER 0, GRIEF 1", hangs("weak 30 p=0", 1), 0);
        is("POWER 30, GRIEF 30", hangs("", 30), 1);
        is("POWER 30, GRIEF 31", hangs("", 31), 0);
        is("POWER 30, GRIEF 29", hangs("", 29), 1);
    }

    private static GriefCranes hung(String firm) {
        GriefCranes x = Make.with(firm);
        x.crane(0, 0);
        x.thing(0, 0);
        x.pass(1);
        return x;
    }

    private static void swingAtMost() {
        says("its SWING is WIND of the HOUR more (99 at most)");
        GriefCranes x = hung("bear 99;hang 99");
        Make.winds(x, 9, 9, 9, 9);
        x.pass(11);
        is("11 times 9", x.load(0, 3), 99);
        x.pass(1);
        is("no more", x.load(0, 3), 99);
        is("99 is not more than BEAR 99", x.load(0, 2), 1);
        GriefCranes y = hung("bear 99;hang 99");
        Make.winds(y, 8, 8, 8, 8);
        y.pass(12);
        is("12 times 8", y.load(0, 3), 96);
        y.pass(1);
        is("104 is 99", y.load(0, 3), 99);
    }

    private static void swingMoreThanBear() {
        says("if SWING is more than BEAR then, it is FALLEN");
        int[][] rows = {{0, 0, 1}, {0, 1, 3}, {1, 1, 1}, {1, 2, 3}, {8, 9, 3}, {9, 9, 1}, {10, 9, 1}, {99, 9, 1}};
        for (int[] row : rows) {
            GriefCranes x = hung("hang 9;bear " + row[0]);
            x.wind(1, row[1]);
            x.pass(1);
            is("BEAR " + row[0] + ", SWING " + row[1], x.load(0, 2), row[2]);
        }
    }

    private static void timeAsHang() {
        says("else, if TIME is HANG or more, it is LAID, and LIFTS of the CRANE are 1 more");
        int[] hangs = {0, 1, 2, 3, 59, 98, 99};
        for (int hang : hangs) {
            GriefCranes x = hung("bear 99;hang " + hang);
            Make.winds(x, 0, 0, 0, 0);
            int last = Math.max(hang, 1);
            for (int h = 1; h < last; h++) {
                x.pass(1);
                is("HANG " + hang + ", TIME " + h, x.load(0, 2), 1);
            }
            is("no LIFTS yet", x.of(0, 2), 0);
            x.pass(1);
            is("HANG " + hang + ", LAID", x.load(0, 2), 2);
            is("its TIME", x.load(0, 4), last);
            is("LIFTS", x.of(0, 2), 1);
        }
        GriefCranes y = hung("bear 99;hang 9");
        y.pass(5);
        Make.firm(y, "bear 99;hang 3");
        is("TIME 5, HANG 3", y.load(0, 4), 5);
        y.pass(1);
        is("TIME is more than HANG", y.load(0, 2), 2);
    }

    private static void fallenAheadOfLaid() {
        says("if SWING is more than BEAR, it is FALLEN; else, if TIME is HANG");
        GriefCranes x = hung("bear 3;hang 2");
        x.pass(2);
        is("both", x.load(0, 2), 3);
        is("no LIFTS", x.of(0, 2), 0);
        GriefCranes y = hung("bear 4;hang 2");
        y.pass(2);
        is("SWING as BEAR", y.load(0, 2), 2);
        is("LIFTS", y.of(0, 2), 1);
    }

    private static void freshWhenHung() {
        says("the first is HUNG by it, SWING and TIME 0");
        GriefCranes x = Make.with("bear 99;hang 5");
        x.crane(0, 0);
        x.thing(0, 0);
        x.thing(0, 0);
        Make.winds(x, 9, 9, 9, 9);
        x.pass(1);
        is("SWING", x.load(0, 3), 0);
        is("TIME", x.load(0, 4), 0);
        x.pass(5);
        is("the first is LAID", x.load(0, 2), 2);
        is("the second is not HUNG in that HOUR", x.load(1, 2), 0);
        x.pass(1);
        is("it is in the next", x.load(1, 2), 1);
        is("its SWING", x.load(1, 3), 0);
        is("its TIME", x.load(1, 4), 0);
    }

    private static void oneAtMost() {
        says("a CRANE by which a THING is HUNG (one at most)");
        GriefCranes x = Make.with("bear 99;hang 9");
        for (int c = 0; c < 6; c++) x.crane(0, 0);
        for (int t = 0; t < 8; t++) x.thing(0, t < 3 ? 0 : t - 2);
        is("none yet", x.told(4), 0);
        x.pass(1);
        is("one for each", x.told(4), 0b11111001);
        for (int n = 0; n < 8; n++) {
            x.pass(1);
            is("no more", x.told(4), 0b11111001);
        }
        for (int c = 0; c < 6; c++) is("by " + c, x.of(c, 3), c == 0 ? 0 : c + 2);
    }

    private static void theFirstOfThem() {
        says("of the THINGS that are STANDING, for which it is sent and which it can LIFT now, the first");
        GriefCranes x = new GriefCranes();
        x.crane(0, 0);
        x.crane(0, 0);
        x.thing(31, 0);
        x.thing(5, 1);
        x.thing(5, -1);
        x.thing(99, 0);
        x.thing(6, 0);
        x.thing(5, 0);
        x.pass(1);
        is("HUNG by 0", x.of(0, 3), 4);
        is("HUNG by 1", x.of(1, 3), 1);
        GriefCranes y = new GriefCranes();
        y.crane(0, 0);
        for (int t = 0; t < 7; t++) y.thing(31, 0);
        y.thing(30, 0);
        y.pass(1);
        is("the last of 8", y.of(0, 3), 7);
    }

    private static void noneAtAll() {
        says("an HOUR goes, without CRANES or THINGS, too");
        GriefCranes x = new GriefCranes();
        is("neither", x.pass(60), 60);
        x.thing(0, -1);
        is("no CRANE", x.pass(60), 120);
        is("it is STANDING", x.load(0, 2), 0);
        GriefCranes y = new GriefCranes();
        y.crane(0, 0);
        is("no THING", y.pass(60), 60);
        is("none is HUNG", y.of(0, 3), -5);
        is("DOWN without a CRANE", x.load(0, 5), -5);
    }

    private static void fourStates() {
        says("a STATE (0 STANDING, at first; 1 HUNG; 2 LAID; 3 FALLEN)");
        GriefCranes x = new GriefCranes();
        for (int c = 0; c < 3; c++) x.crane(0, 0);
        for (int t = 0; t < 4; t++) x.thing(0, t - 1);
        x.send(1, -1);
        x.send(2, -1);
        x.pass(3);
        x.send(1, 0);
        x.pass(1);
        Make.winds(x, 7, 6, 7, 7);
        x.send(2, 1);
        is("STATES as they are", x.on(0, 10) * 1000 + x.on(0, 11) * 100 + x.on(0, 12) * 10 + x.on(0, 13), 102);
        x.pass(2);
        is("told STANDING", x.told(3), 1);
        is("told HUNG", x.told(4), 4);
        is("told LAID", x.told(5), 8);
        is("told FALLEN", x.told(6), 2);
        x.pass(2);
        is("told FALLEN later", x.told(6), 6);
        for (int t = 0; t < 4; t++) is("STATE", x.load(t, 2), t == 0 ? 0 : t == 3 ? 2 : 3);
    }

    private static void lastHours() {
        says("pass: STATE: it would be above 9999");
        GriefCranes x = new GriefCranes();
        passTo(x, 9939);
        is("60 to the last", x.pass(60), 9999);
        is("0 at the last", x.pass(0), 9999);
        is("1 at the last", x.pass(1), -3);
        is("60 at the last", x.pass(60), -3);
        is("61 at the last", x.pass(61), -2);
        is("-1 at the last", x.pass(-1), -2);
        is("HOUR", x.told(0), 9999);
        GriefCranes y = new GriefCranes();
        passTo(y, 9940);
        is("60 beyond", y.pass(60), -3);
        is("HOUR stays", y.told(0), 9940);
        is("59", y.pass(59), 9999);
    }

    private static void beyondTheLastHour() {
        says("all that follows is asked, goes on from how all is (HOURS beyond 9999, too), and changes nothing");
        GriefCranes x = Make.with("strong 9 h=0");
        x.crane(0, 0);
        x.crane(0, 0);
        passTo(x, 9999);
        x.thing(39, 0);
        x.thing(99, -1);
        String before = Make.state(x);
        int[] states = {0, 0, 1, 1, 2, 2};
        for (int n = 0; n < states.length; n++) is("ON " + n, x.on(n, 10), states[n]);
        is("ON 60", x.on(60, 0), 1);
        is("DOWN", x.load(0, 5), 4);
        is("SENT", x.load(0, 6), 0);
        is("CREW", x.best(12, 1), 1);
        is("CHANGE", x.best(20, 0), -5);
        is("ODDS, above", x.odds(0, 20, 0), 1);
        is("ODDS, below", x.odds(0, 3, 1), 1);
        x.see(0, 3, 1);
        x.see(0, 12, 2);
        is("GRIEFS", x.load(0, 7), 9);
        is("the least", x.load(0, 8), 31);
        is("CAN", x.can(0, 0), 10);
        x.see(-1, 0, 0);
        for (int i = 0; i < 4; i++) x.plan(0, 0);
        is("ENDS", x.ends(0), 1);
        x.plan(-1, 0);
        due.holds(words + ": nothing is changed", before.equals(Make.state(x)));
        Make.firm(x, "strong 9 h=0;bear 5;hang 3");
        is("CHANGE of one that would fall", x.best(20, 0), 1);
    }

    private static void liftsGoOn() {
        says("LIFTS of the CRANE are 1 more, each time");
        GriefCranes x = Make.with("hang 0");
        x.crane(0, 0);
        for (int t = 0; t < 8; t++) x.thing(0, 0);
        for (int lifts = 0; lifts <= 8; lifts++) {
            is("LIFTS", x.of(0, 2), lifts);
            x.pass(2);
        }
        is("none is left", x.of(0, 2), 8);
        is("all are LAID", x.told(5), 255);
    }

    private static void onHours() {
        says("ON n HOURS (0 .. 60)");
        GriefCranes x = Make.with("bear 99;hang 59");
        Make.winds(x, 1, 1, 1, 1);
        x.crane(0, 0);
        x.thing(0, 0);
        int[][] rows = {{0, 0, 0, 0}, {1, 0, 1, 0}, {59, 0, 1, 58}, {60, 1, 2, 59}};
        for (int[] row : rows) {
            is("LAID on " + row[0], x.on(row[0], 0), row[1]);
            is("FALLEN on " + row[0], x.on(row[0], 1), 0);
            is("STATE on " + row[0], x.on(row[0], 10), row[2]);
            is("SWING on " + row[0], x.on(row[0], 20), row[3]);
        }
        int[] bad = {-1, 61, Integer.MAX_VALUE, Integer.MIN_VALUE};
        for (int n : bad) {
            for (int what : new int[] {0, 1, 10, 20}) is("n " + n + ", what " + what, x.on(n, what), -2);
            for (int what : new int[] {-1, 2, 9, 11, 19, 21}) is("n " + n + ", what " + what, x.on(n, what), -1);
        }
    }

    private static void downHours() {
        says("DOWN: the fewest HOURS (0 .. 60) behind which it is LAID (-5: not by then)");
        int[][] rows = {{0, 2}, {1, 2}, {2, 3}, {58, 59}, {59, 60}, {60, -5}, {99, -5}};
        for (int[] row : rows) {
            GriefCranes x = Make.with("bear 99;hang " + row[0]);
            Make.winds(x, 0, 0, 0, 0);
            x.crane(0, 0);
            x.thing(0, 0);
            is("HANG " + row[0], x.load(0, 5), row[1]);
            is("SENT, HANG " + row[0], x.load(0, 6), row[1] < 0 ? -5 : 0);
        }
    }

    private static void downOfEachState() {
        says("DOWN of what is LAID is 0, of what is FALLEN none");
        GriefCranes x = new GriefCranes();
        x.crane(0, 0);
        x.thing(0, 0);
        x.thing(0, 0);
        x.thing(0, -1);
        x.thing(31, 0);
        int[][] rows = {{3, 6}, {2, 5}, {1, 4}, {0, 3}, {0, 2}, {0, 1}, {0, 0}};
        for (int h = 0; h < rows.length; h++) {
            is("the first in HOUR " + h, x.load(0, 5), rows[h][0]);
            is("the second in HOUR " + h, x.load(1, 5), rows[h][1]);
            is("without a CRANE", x.load(2, 5), -5);
            is("too heavy", x.load(3, 5), -5);
            x.pass(1);
        }
        GriefCranes y = hung("bear 0");
        is("it will fall", y.load(0, 5), -5);
        y.pass(1);
        is("FALLEN", y.load(0, 5), -5);
    }

    private static void sentSoonest() {
        says("SENT: the CRANE by which, were it sent for it now, DOWN is least (of several the first)");
        for (int busy = 0; busy < 3; busy++) {
            for (int other = 0; other < 3; other++) {
                GriefCranes x = new GriefCranes();
                for (int c = 0; c < 3; c++) x.crane(0, 0);
                x.thing(0, busy);
                x.thing(0, other);
                x.thing(0, -1);
                int free = busy != 0 && other != 0 ? 0 : busy != 1 && other != 1 ? 1 : 2;
                is("one has a THING of " + busy + ", one of " + other, x.load(2, 6), free);
            }
        }
        GriefCranes y = new GriefCranes();
        y.crane(0, 0);
        y.crane(0, 0);
        y.thing(0, 0);
        y.thing(0, 1);
        y.thing(0, -1);
        is("alike late", y.load(2, 6), 0);
        y.pass(1);
        y.thing(0, 0);
        is("ahead of a later one", y.load(2, 6), 0);
        is("behind it", y.load(3, 6), 0);
        y.send(2, 0);
        is("behind another", y.load(3, 6), 1);
    }

    private static void sentToNone() {
        says("SENT (-5: by none, or it is not STANDING)");
        GriefCranes x = new GriefCranes();
        x.thing(0, -1);
        is("no CRANES", x.load(0, 6), -5);
        x.crane(0, 0);
        is("a CRANE", x.load(0, 6), 0);
        x.thing(31, 0);
        is("too heavy", x.load(1, 6), -5);
        x.send(0, 0);
        x.pass(1);
        is("HUNG", x.load(0, 6), -5);
        x.pass(2);
        is("LAID", x.load(0, 6), -5);
        GriefCranes y = hung("bear 0");
        y.thing(0, 0);
        is("it would fall", y.load(1, 6), -5);
        y.pass(1);
        is("FALLEN", y.load(0, 6), -5);
    }

    /** THING 0 is sent a CRANE and falls in an HOUR, THING 1 is too heavy for it. */
    private static GriefCranes falls(int bear) {
        GriefCranes x = Make.with("hang 99;bear " + bear);
        x.crane(0, 0);
        x.thing(10, 0);
        x.thing(99, -1);
        return x;
    }

    private static void changeHours() {
        says("CHANGE of n HOURS (1 .. 20)");
        is("it falls in the 20th: 20", falls(37).best(20, 0), 1);
        is("it falls in the 20th: 19", falls(37).best(19, 0), -5);
        is("it falls behind the 20th", falls(38).best(20, 0), -5);
        is("it falls in the second: 2", falls(1).best(2, 0), 1);
        is("it falls in the second: 1", falls(1).best(1, 0), -5);
        int[] bad = {0, -1, 21, Integer.MAX_VALUE, Integer.MIN_VALUE};
        for (int n : bad) is("n " + n, falls(0).best(n, 0), -2);
        int[] none = {-1, 2, Integer.MAX_VALUE, Integer.MIN_VALUE};
        for (int what : none) {
            is("what " + what, falls(0).best(20, what), -1);
            is("what " + what + " and n 0", falls(0).best(0, what), -1);
        }
    }

    private static void changeToNone() {
        says("CHANGE (-5: none)");
        GriefCranes x = new GriefCranes();
        is("no THINGS", x.best(20, 0), -5);
        x.thing(0, -1);
        is("one THING", x.best(20, 0), -5);
        x.thing(0, -1);
        is("two without CRANES", x.best(20, 0), -5);
        GriefCranes y = falls(0);
        y.pass(1);
        is("one is HUNG", y.best(20, 0), -5);
        y.pass(1);
        is("one is FALLEN", y.best(20, 0), -5);
        GriefCranes z = Make.with("bear 0");
        z.crane(0, 0);
        z.thing(0, 0);
        z.thing(0, 0);
        is("the same CRANE", z.best(20, 0), -5);
        z.thing(0, -1);
        is("as many fall", z.best(20, 0), -5);
    }

    private static void changeOfFewest() {
        says("CHANGE: so that fewest are FALLEN, if fewer than as it is (10 times the lesser and the greater; the first)");
        // what CRANE 0 lifts falls, 7 alone is too heavy for it; 1 lifts none
        GriefCranes x = Make.with("bear 0;hang 9;weak 99 p=1");
        x.crane(0, 0);
        x.crane(0, 0);
        for (int t = 0; t < 6; t++) x.thing(99, -1);
        x.thing(0, 0);
        x.thing(99, 1);
        is("6 with the first that has none", x.best(20, 0), 6);
        for (int t = 0; t < 6; t++) x.send(t, 0);
        is("6 with 7", x.best(20, 0), 67);
        // in 2 HOURS one falls, whichever of the two is first
        GriefCranes y = Make.with("bear 0;hang 9;weak 99 p=1");
        y.crane(0, 0);
        y.crane(0, 0);
        y.thing(0, 0);
        y.thing(0, 0);
        y.thing(0, 1);
        y.thing(99, 1);
        is("both fall as it is", y.on(4, 1), 2);
        is("the first of two that save one", y.best(4, 0), 3);
        is("in 3 HOURS none is better", y.best(3, 0), -5);
    }

    /** One THING that is LAID behind some HOURS, by CRANE 1 of 3. */
    private static GriefCranes laidBehind(int hours) {
        GriefCranes x = Make.with("bear 99;hang " + (hours - 1));
        for (int c = 0; c < 3; c++) x.crane(0, 0);
        x.thing(0, 1);
        Make.winds(x, 0, 0, 0, 0);
        return x;
    }

    private static void crewHours() {
        says("CREW of n HOURS (1 .. 12)");
        is("LAID by the 12th: 12", laidBehind(12).best(12, 1), 2);
        is("LAID by the 12th: 11", laidBehind(12).best(11, 1), 0);
        is("LAID behind the 12th", laidBehind(13).best(12, 1), 0);
        is("1", laidBehind(2).best(1, 1), 0);
        is("LAID by the second: 2", laidBehind(2).best(2, 1), 2);
        int[] bad = {0, -1, 13, 20, Integer.MAX_VALUE, Integer.MIN_VALUE};
        for (int n : bad) is("n " + n, laidBehind(2).best(n, 1), -2);
    }

    private static void crewOfFewest() {
        says("CREW: the set with the fewest CRANES, no other being sent for any that is STANDING");
        GriefCranes x = new GriefCranes();
        is("no CRANES", x.best(12, 1), 0);
        for (int c = 0; c < 6; c++) x.crane(0, 0);
        is("no THINGS", x.best(12, 1), 0);
        x.thing(31, 0);
        is("too heavy", x.best(12, 1), 0);
        for (int c = 0; c < 6; c++) x.thing(0, c);
        is("all six", x.best(12, 1), 63);
        x.pass(1);
        is("all are HUNG", x.best(12, 1), 0);
        x.thing(0, 5);
        is("one more is STANDING", x.best(12, 1), 32);
        is("not in 4 HOURS", x.best(4, 1), 0);
        is("in 5 HOURS", x.best(5, 1), 32);
        x.pass(12);
        is("all are LAID", x.best(12, 1), 0);
    }
}
