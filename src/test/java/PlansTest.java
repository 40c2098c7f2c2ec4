/** Promises 19 to 22: the PLAN row by row, and the BOOK. */
public final class PlansTest {
    private static final Due due = new Due("PlansTest");

    public static void main(String[] args) {
        planning();
        ends();
        endsOfStandingAgain();
        booking();
        looking();
        due.end();
    }

    private static void planning() {
        GriefCranes x = new GriefCranes();
        due.is("19: no THING", x.plan(1, 0), -1);
        due.is("19: what 4", x.plan(4, 0), -1);
        due.is("19: what -2", x.plan(-2, 0), -1);
        due.is("19: none came", x.count(4), 0);
        due.is("19: an HOUR needs no THING", x.plan(0, -9), 1);
        x.thing(1, -1);
        due.is("19: what 4 with a THING", x.plan(4, 0), -1);
        due.is("19: what -2 with a THING", x.plan(-2, 0), -1);
        due.is("19: SWING", x.plan(1, 0), 2);
        due.is("19: no CRANE", x.plan(2, 0), 3);
        due.is("19: STANDING", x.plan(3, 0), 4);
        for (int what = 1; what <= 3; what++) {
            due.is("19: THING 1 by " + what, x.plan(what, 1), -1);
            due.is("19: THING -1 by " + what, x.plan(what, -1), -1);
        }
        for (int i = 5; i <= 10; i++) due.is("19: how many", x.plan(0, 5), i);
        due.is("19: FULL", x.plan(0, 0), -4);
        due.is("19: NONE ahead of FULL", x.plan(1, 1), -1);
        due.is("19: ten", x.count(4), 10);
        due.is("19: empty then, whatever the rest is", x.plan(-1, -7), 0);
        due.is("19: none", x.count(4), 0);
        due.is("19: from the first again", x.plan(0, 0), 1);
    }

    private static void ends() {
        GriefCranes x = new GriefCranes();
        x.crane(0, 0);
        x.crane(0, 0);
        x.thing(10, 0);
        x.thing(10, 1);
        Make.winds(x, 2, 7, 7, 7);
        due.is("20: what 2", x.ends(2), -1);
        due.is("20: what -1", x.ends(-1), -1);
        due.is("20: an empty PLAN, LAID", x.ends(0), 0);
        x.plan(0, 0);
        x.plan(0, 0);
        due.is("20: not yet", x.ends(1), 0);
        x.plan(0, 0);
        due.is("20: two fall", x.ends(1), 2);
        due.is("20: none is LAID", x.ends(0), 0);
        x.plan(-1, 0);
        x.plan(0, 0);
        x.plan(0, 0);
        x.plan(1, 1);
        x.plan(0, 0);
        due.is("20: SWING 0 saves one", x.ends(0), 1);
        due.is("20: the other falls", x.ends(1), 1);
        x.plan(-1, 0);
        x.plan(2, 0);
        x.plan(0, 0);
        x.plan(2, 1);
        x.plan(0, 0);
        x.plan(0, 0);
        due.is("20: no CRANE, if it is STANDING", x.ends(1), 1);
        due.is("20: nothing is changed", x.load(0, 1), 0);
        due.is("20: HOUR stays", x.told(0), 0);
        x.pass(3);
        x.plan(-1, 0);
        due.is("20: FALLEN already", x.ends(1), 2);
    }

    private static void endsOfStandingAgain() {
        GriefCranes x = new GriefCranes();
        x.crane(0, 0);
        x.thing(10, 0);
        x.thing(10, 0);
        x.pass(3);
        x.plan(3, 0);
        due.is("20: STANDING again is not LAID", x.ends(0), 0);
        x.plan(0, 0);
        x.plan(0, 0);
        due.is("20: not LAID yet", x.ends(0), 0);
        x.plan(0, 0);
        due.is("20: LAID again", x.ends(0), 1);
        x.plan(-1, 0);
        Make.winds(x, 7, 7, 7, 7);
        x.pass(2);
        due.is("20: HUNG with SWING", x.load(1, 3), 7);
        x.plan(3, 1);
        x.plan(0, 0);
        x.plan(0, 0);
        due.is("20: without SWING and TIME it hangs on", x.ends(1), 0);
        x.plan(0, 0);
        due.is("20: it falls a while later", x.ends(1), 1);
        x.plan(-1, 0);
        x.plan(0, 0);
        due.is("20: it falls at once", x.ends(1), 1);
        x.plan(3, 1);
        due.is("20: FALLEN stands again", x.ends(1), 0);
        x.plan(2, 1);
        x.plan(0, 0);
        x.plan(0, 0);
        x.plan(0, 0);
        due.is("20: without a CRANE it stands", x.ends(1), 0);
    }

    private static void booking() {
        GriefCranes x = new GriefCranes();
        due.is("21: no THING", x.book(0, 0), -1);
        x.thing(50, -1);
        due.is("21: THING 1", x.book(1, 0), -1);
        due.is("21: THING -2", x.book(-2, 0), -1);
        due.is("21: GRIEF -1", x.book(0, -1), -2);
        due.is("21: GRIEF 100", x.book(0, 100), -2);
        due.is("21: NONE ahead of BAD", x.book(1, 100), -1);
        due.is("21: none came", x.count(5), 0);
        for (int i = 1; i <= 8; i++) due.is("21: how many", x.book(0, i == 1 ? 0 : 99), i);
        due.is("21: FULL", x.book(0, 0), -4);
        due.is("21: BAD ahead of FULL", x.book(0, 100), -2);
        due.is("21: eight", x.count(5), 8);
        due.is("21: empty then, whatever the rest is", x.book(-1, -7), 0);
        due.is("21: none", x.count(5), 0);
        due.is("21: from the first again", x.book(0, 5), 1);
    }

    private static void looking() {
        GriefCranes x = new GriefCranes();
        due.is("22: an empty BOOK", x.looked(), -5);
        x.thing(50, -1);
        x.thing(60, -1);
        x.book(1, 60);
        x.book(0, 50);
        due.is("22: all is so", x.looked(), -5);
        x.book(1, 61);
        due.is("22: the third", x.looked(), 2);
        x.book(0, 1);
        due.is("22: the first of them", x.looked(), 2);
        x.book(-1, 0);
        due.is("22: empty again", x.looked(), -5);
        x.book(0, 60);
        due.is("22: row 0", x.looked(), 0);
    }
}
