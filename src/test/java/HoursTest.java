/** Promises 12 to 14, and 5 for DOWN and SENT: how HOURS go, and what is asked of them. */
public final class HoursTest {
    private static final Due due = new Due("HoursTest");

    public static void main(String[] args) {
        passing();
        hangingAndLaying();
        falling();
        oneAtATime();
        turnsByNumber();
        theLongestHang();
        newFirmWhileHung();
        on();
        down();
        sent();
        sentAtTheLast();
        change();
        changeOfSeveral();
        crew();
        askingChangesNothing();
        due.end();
    }

    private static void passing() {
        GriefCranes x = new GriefCranes();
        due.is("12: -1", x.pass(-1), -2);
        due.is("12: 61", x.pass(61), -2);
        due.is("12: 0", x.pass(0), 0);
        for (int i = 1; i <= 166; i++) due.is("12: HOUR", x.pass(60), 60 * i);
        due.is("12: above 9999", x.pass(40), -3);
        due.is("12: HOUR stays", x.told(0), 9960);
        due.is("12: BAD ahead of STATE", x.pass(61), -2);
        due.is("12: 9999", x.pass(39), 9999);
        due.is("12: one more", x.pass(1), -3);
        due.is("12: none more", x.pass(0), 9999);
        x.crane(0, 0);
        x.thing(0, 0);
        due.is("13: HOURS asked go on beyond 9999", x.on(60, 0), 1);
        due.is("5: DOWN beyond 9999", x.load(0, 5), 3);
    }

    private static void hangingAndLaying() {
        GriefCranes x = new GriefCranes();
        x.crane(0, 0);
        x.thing(31, 0);
        x.thing(30, 0);
        Make.winds(x, 9, 8, 4, 9);
        due.is("12: an HOUR", x.pass(1), 1);
        due.is("12: too heavy", x.load(0, 2), 0);
        due.is("12: GRIEF as POWER is HUNG", x.load(1, 2), 1);
        due.is("12: without SWING yet", x.load(1, 3), 0);
        due.is("12: without TIME yet", x.load(1, 4), 0);
        x.pass(1);
        due.is("12: SWING by WIND 1", x.load(1, 3), 8);
        due.is("12: TIME", x.load(1, 4), 1);
        x.pass(1);
        due.is("12: SWING as BEAR is no fall", x.load(1, 3), 12);
        due.is("12: LAID", x.load(1, 2), 2);
        due.is("12: LIFTS", x.of(0, 2), 1);
        x.pass(5);
        due.is("12: SWING stays", x.load(1, 3), 12);
        due.is("12: LAID stays", x.load(1, 2), 2);
        due.is("12: LIFTS stay", x.of(0, 2), 1);
    }

    private static void falling() {
        GriefCranes x = new GriefCranes();
        x.crane(0, 0);
        x.thing(1, 0);
        Make.winds(x, 9, 8, 5, 9);
        x.pass(3);
        due.is("12: more than BEAR falls, though its TIME is HANG", x.load(0, 2), 3);
        due.is("12: SWING of what is FALLEN", x.load(0, 3), 13);
        due.is("12: TIME of what is FALLEN", x.load(0, 4), 2);
        due.is("12: no LIFTS by that", x.of(0, 2), 0);
        due.is("12: HUNG no more", x.of(0, 3), -5);
        x.pass(9);
        due.is("12: FALLEN stays", x.load(0, 2), 3);
    }

    private static void oneAtATime() {
        GriefCranes x = new GriefCranes();
        x.crane(0, 0);
        x.thing(40, 0);
        x.thing(5, -1);
        x.thing(6, 0);
        x.thing(7, 0);
        x.pass(1);
        due.is("12: the first that it can LIFT", x.told(4), 4);
        x.pass(1);
        due.is("12: one at most", x.told(4), 4);
        x.pass(1);
        due.is("12: none is HUNG in the HOUR of laying", x.told(4), 0);
        x.pass(1);
        due.is("12: the next", x.told(4), 8);
        x.pass(2);
        due.is("12: both LAID", x.told(5), 12);
        x.send(1, 0);
        x.pass(1);
        due.is("12: what is sent for later", x.told(4), 2);
    }

    /** What a CRANE does in an HOUR is by the POWER of that HOUR, and each has its turn. */
    private static void turnsByNumber() {
        GriefCranes x = Make.with("hang 1;weak 30 h=0;weak 30 h=1&p=1");
        x.crane(0, 0);
        x.crane(0, 0);
        x.crane(0, 0);
        for (int t = 0; t < 6; t++) x.thing(10, 2 - t % 3);
        x.pass(1);
        due.is("12: none can in HOUR 0", x.told(4), 0);
        x.pass(1);
        due.is("12: 0 and 2 can in HOUR 1", x.told(4), 5);
        x.pass(1);
        due.is("12: 1 can in HOUR 2", x.told(4), 2);
        due.is("12: LAID by 0 and 2", x.told(5), 5);
        x.pass(1);
        due.is("12: HUNG in HOUR 3", x.told(4), 40);
        due.is("12: LAID by 1", x.told(5), 7);
        for (int c = 0; c < 3; c++) due.is("12: LIFTS", x.of(c, 2), 1);
    }

    private static void theLongestHang() {
        GriefCranes x = Make.with("bear 99;hang 99");
        x.crane(0, 0);
        x.thing(1, 0);
        Make.winds(x, 9, 9, 9, 9);
        x.pass(12);
        due.is("12: SWING 99", x.load(0, 3), 99);
        x.pass(1);
        due.is("12: SWING 99 at most", x.load(0, 3), 99);
        x.pass(60);
        due.is("12: HUNG long", x.load(0, 2), 1);
        due.is("12: TIME", x.load(0, 4), 72);
        due.is("5: DOWN of it", x.load(0, 5), 27);
        x.pass(26);
        due.is("12: TIME 98", x.load(0, 4), 98);
        due.is("12: HUNG still", x.load(0, 2), 1);
        x.pass(1);
        due.is("12: LAID", x.load(0, 2), 2);
        due.is("12: TIME 99", x.load(0, 4), 99);
        GriefCranes y = Make.with("bear 98;hang 99");
        y.crane(0, 0);
        y.thing(1, 0);
        Make.winds(y, 9, 9, 9, 9);
        y.pass(11);
        due.is("12: SWING 90", y.load(0, 2), 1);
        y.pass(1);
        due.is("12: 99 is more than 98", y.load(0, 2), 3);
    }

    private static void newFirmWhileHung() {
        GriefCranes x = Make.with("bear 90;hang 20");
        x.crane(0, 0);
        x.thing(30, 0);
        x.pass(6);
        due.is("12: HUNG", x.load(0, 4), 5);
        Make.firm(x, "weak 30 p=0;bear 90;hang 3");
        x.pass(1);
        due.is("12: TIME beyond HANG is LAID, whatever POWER is", x.load(0, 2), 2);
        due.is("12: TIME", x.load(0, 4), 6);
        x.thing(0, 0);
        x.pass(1);
        due.is("12: POWER 0 for GRIEF 0", x.load(1, 2), 1);
        Make.firm(x, "bear 1");
        x.pass(1);
        due.is("12: beyond the new BEAR", x.load(1, 2), 3);
    }

    private static void on() {
        GriefCranes x = new GriefCranes();
        x.crane(0, 0);
        x.crane(1, 0);
        x.thing(10, 0);
        x.thing(10, 0);
        x.thing(10, 1);
        x.wind(0, 9);
        x.wind(1, 8);
        x.pass(1);
        int[][] rows = {{0, 0, 1, 0, 0, 0}, {0, 0, 1, 0, 8, 0}, {2, 0, 2, 0, 10, 0}, {2, 0, 2, 1, 10, 0},
            {2, 0, 2, 1, 10, 9}, {2, 1, 2, 3, 10, 17}, {2, 1, 2, 3, 10, 17}};
        for (int n = 0; n < rows.length; n++) {
            due.is("13: LAID on " + n, x.on(n, 0), rows[n][0]);
            due.is("13: FALLEN on " + n, x.on(n, 1), rows[n][1]);
            due.is("13: STATE of 0 on " + n, x.on(n, 10), rows[n][2]);
            due.is("13: STATE of 1 on " + n, x.on(n, 11), rows[n][3]);
            due.is("13: SWING of 0 on " + n, x.on(n, 20), rows[n][4]);
            due.is("13: SWING of 1 on " + n, x.on(n, 21), rows[n][5]);
        }
        due.is("13: 60", x.on(60, 0), 2);
        due.is("13: 61", x.on(61, 0), -2);
        due.is("13: -1", x.on(-1, 22), -2);
        for (int what : new int[] {-1, 2, 9, 13, 17, 18, 19, 23, 30, Integer.MAX_VALUE, Integer.MIN_VALUE}) {
            due.is("13: what " + what, x.on(0, what), -1);
            due.is("13: NONE ahead of BAD", x.on(61, what), -1);
        }
    }

    private static void down() {
        GriefCranes x = Make.with("bear 99;hang 58");
        Make.winds(x, 0, 0, 0, 0);
        x.crane(0, 0);
        x.crane(0, 0);
        x.thing(1, 0);
        x.thing(1, 0);
        x.thing(1, -1);
        x.thing(31, 1);
        due.is("5: DOWN", x.load(0, 5), 59);
        due.is("5: DOWN too late", x.load(1, 5), -5);
        due.is("5: DOWN without a CRANE", x.load(2, 5), -5);
        due.is("5: DOWN of what is too heavy", x.load(3, 5), -5);
        x.pass(57);
        due.is("5: DOWN of one HUNG", x.load(0, 5), 2);
        due.is("5: DOWN behind another, too late", x.load(1, 5), -5);
        x.pass(1);
        due.is("5: DOWN by the 60th", x.load(1, 5), 60);
        x.pass(1);
        due.is("5: DOWN of one LAID", x.load(0, 5), 0);
        due.is("5: DOWN nearer", x.load(1, 5), 59);
        Make.firm(x, "bear 0");
        x.wind(0, 1);
        x.wind(2, 1);
        due.is("5: DOWN of one that falls", x.load(1, 5), -5);
        x.pass(3);
        due.is("5: FALLEN", x.load(1, 2), 3);
        due.is("5: DOWN of one FALLEN", x.load(1, 5), -5);
    }

    private static void sentAtTheLast() {
        GriefCranes x = Make.with("bear 99;hang 59");
        Make.winds(x, 0, 0, 0, 0);
        x.crane(0, 0);
        x.thing(1, -1);
        due.is("6: DOWN would be 60", x.load(0, 6), 0);
        Make.firm(x, "bear 99;hang 60");
        due.is("6: DOWN would be 61", x.load(0, 6), -5);
    }

    private static void sent() {
        GriefCranes x = new GriefCranes();
        x.crane(0, 0);
        x.crane(1, 9);
        x.crane(0, 0);
        x.crane(1, 9);
        x.thing(35, -1);
        x.thing(20, -1);
        x.thing(60, -1);
        x.thing(20, 0);
        due.is("6: none can: SENT", x.load(2, 6), -5);
        due.is("6: the first that can: SENT", x.load(0, 6), 1);
        due.is("6: the first of several: SENT", x.load(1, 6), 0);
        due.is("6: it is not sent by that", x.load(1, 1), -5);
        due.is("6: already the first of its CRANE", x.load(3, 6), 0);
        x.send(1, 0);
        due.is("6: behind another it is later", x.load(3, 6), 1);
        due.is("6: its own is kept in mind", x.load(3, 1), 0);
        x.pass(1);
        due.is("6: HUNG has none", x.load(1, 6), -5);
        due.is("6: the first is at work", x.load(3, 6), 1);
        x.pass(2);
        due.is("6: LAID has none", x.load(1, 6), -5);
        due.is("6: no THING", x.load(4, 6), -1);
        GriefCranes y = new GriefCranes();
        y.thing(0, -1);
        due.is("6: without CRANES", y.load(0, 6), -5);
    }

    private static void change() {
        GriefCranes x = Make.with("bear 5;hang 3");
        x.crane(0, 0);
        x.crane(1, 9);
        x.thing(10, 0);
        x.thing(99, -1);
        due.is("14: one that falls for one too heavy", x.best(20, 0), 1);
        due.is("14: it does not fall so soon", x.best(3, 0), -5);
        due.is("14: just then it does", x.best(4, 0), 1);
        due.is("14: 1 HOUR", x.best(1, 0), -5);
        due.is("14: NONE: what -1", x.best(1, -1), -1);
        due.is("14: NONE: what 2", x.best(1, 2), -1);
        due.is("14: NONE ahead of BAD", x.best(0, 2), -1);
        due.is("14: BAD: 0", x.best(0, 0), -2);
        due.is("14: BAD: 21", x.best(21, 0), -2);
        due.is("14: BAD: -1", x.best(-1, 0), -2);
        due.is("14: nothing is changed", x.load(0, 1), 0);
        x.pass(1);
        due.is("14: what is HUNG changes no more", x.best(20, 0), -5);
    }

    private static void changeOfSeveral() {
        GriefCranes x = Make.with("bear 5;hang 3");
        x.crane(0, 0);
        x.crane(0, 0);
        x.thing(50, -1);
        x.thing(10, 0);
        x.thing(10, 1);
        x.thing(50, -1);
        due.is("14: the first of several", x.best(10, 0), 1);
        x.send(0, 0);
        due.is("14: 0 has that CRANE too", x.best(10, 0), 13);
        x.send(3, 1);
        due.is("14: none is better", x.best(8, 0), -5);
        due.is("14: one falls later", x.best(7, 0), 2);
        x.send(3, -1);
        x.send(0, -1);
        x.send(1, -1);
        due.is("14: one falls", x.best(10, 0), 2);
        x.send(0, 1);
        due.is("14: two greater numbers", x.best(10, 0), 23);
        // only 3 is too heavy and without a CRANE, so 2 should change with 3
        GriefCranes y = Make.with("bear 5;hang 3");
        y.crane(0, 0);
        y.thing(10, 0);
        y.send(0, -1);
        y.thing(11, -1);
        y.thing(12, 0);
        y.thing(99, -1);
        due.is("14: 10 times the lesser and the greater", y.best(10, 0), 23);
    }

    private static void crew() {
        GriefCranes x = new GriefCranes();
        due.is("14: no CRANES", x.best(12, 1), 0);
        x.crane(0, 0);
        x.crane(0, 0);
        x.crane(0, 0);
        due.is("14: none is sent", x.best(12, 1), 0);
        x.thing(10, 1);
        due.is("14: CREW 1", x.best(12, 1), 2);
        due.is("14: nothing is LAID so soon", x.best(2, 1), 0);
        due.is("14: LAID by the third", x.best(3, 1), 2);
        due.is("14: 1 HOUR", x.best(1, 1), 0);
        x.thing(10, 2);
        x.thing(10, 2);
        due.is("14: CREW 1 and 2", x.best(12, 1), 6);
        x.thing(99, 0);
        due.is("14: 0 lays nothing", x.best(12, 1), 6);
        x.pass(1);
        due.is("14: what is HUNG needs none", x.best(12, 1), 4);
        due.is("14: nothing more in 4", x.best(4, 1), 0);
        due.is("14: BAD: 0", x.best(0, 1), -2);
        due.is("14: BAD: 13", x.best(13, 1), -2);
        due.is("14: nothing is changed", x.load(2, 1), 2);
        GriefCranes y = new GriefCranes();
        for (int c = 0; c < 6; c++) {
            y.crane(0, 0);
            y.thing(10, c);
        }
        due.is("14: CREW of all", y.best(3, 1), 63);
    }

    private static void askingChangesNothing() {
        GriefCranes x = Make.with("bear 9;hang 3;strong 4 h>2");
        x.crane(6, 3);
        x.crane(5, 3);
        x.crane(4, 3);
        for (int t = 0; t < 8; t++) x.thing(5 * t, t % 4 - 1);
        x.see(0, 2, 1);
        x.plan(0, 0);
        x.plan(3, 1);
        x.book(1, 6);
        x.pass(2);
        String before = Make.inside(x);
        x.on(60, 0);
        x.on(60, 10);
        x.best(20, 0);
        x.best(12, 1);
        for (int t = 0; t < 8; t++) {
            for (int what = 0; what <= 8; what++) x.load(t, what);
            x.odds(t, 20, 0);
        }
        x.can(0, 0);
        x.can(1, 1);
        x.mean(0);
        x.ends(0);
        x.looked();
        x.judge(0, 0);
        x.taken(0, 0);
        due.holds("13: what is asked changes nothing", before.equals(Make.inside(x)));
    }
}
