/** Promises 15 to 18, and 5 for GRIEFS: what is SEEN, how it can be, ODDS and MEAN. */
public final class SeenTest {
    private static final Due due = new Due("SeenTest");

    public static void main(String[] args) {
        seeing();
        griefs();
        griefsOfSeveralRows();
        seenFromNow();
        cans();
        odds();
        oddsOfThisHoursWind();
        oddsRefused();
        mean();
        due.end();
    }

    private static void seeing() {
        GriefCranes x = new GriefCranes();
        due.is("15: no THING", x.see(0, 0, 0), -1);
        x.thing(1, -1);
        due.is("15: THING 1", x.see(1, 0, 0), -1);
        due.is("15: THING -2", x.see(-2, 0, 0), -1);
        due.is("15: n -1", x.see(0, -1, 0), -2);
        due.is("15: n 13", x.see(0, 13, 0), -2);
        due.is("15: state -1", x.see(0, 0, -1), -2);
        due.is("15: state 4", x.see(0, 0, 4), -2);
        due.is("15: NONE ahead of BAD", x.see(1, 13, 4), -1);
        due.is("15: none came", x.count(3), 0);
        for (int i = 1; i <= 5; i++) due.is("15: how many", x.see(0, i == 5 ? 12 : 0, i == 5 ? 3 : 0), i);
        due.is("15: FULL", x.see(0, 0, 0), -4);
        due.is("15: BAD ahead of FULL", x.see(0, 0, 4), -2);
        due.is("15: five", x.count(3), 5);
        due.is("15: none then, whatever the rest is", x.see(-1, 99, -7), 0);
        due.is("15: none", x.count(3), 0);
        due.is("15: from the first again", x.see(0, 0, 0), 1);
    }

    private static void griefs() {
        GriefCranes x = new GriefCranes();
        x.crane(0, 0);
        x.thing(50, 0);
        due.is("5: GRIEFS without SEEN", x.load(0, 7), 100);
        due.is("5: the least without SEEN", x.load(0, 8), 0);
        x.see(0, 1, 1);
        due.is("5: GRIEFS that it can LIFT", x.load(0, 7), 31);
        due.is("5: the least", x.load(0, 8), 0);
        x.see(-1, 0, 0);
        x.see(0, 1, 0);
        due.is("5: GRIEFS that it can't LIFT", x.load(0, 7), 69);
        due.is("5: the least of them", x.load(0, 8), 31);
        x.see(0, 1, 1);
        due.is("5: GRIEFS of both", x.load(0, 7), 0);
        due.is("5: the least of both", x.load(0, 8), -5);
        due.is("5: its GRIEF stays", x.load(0, 0), 50);
        due.is("5: no THING", x.load(1, 7), -1);
    }

    private static void griefsOfSeveralRows() {
        GriefCranes x = Make.with("strong 20 g>3;bear 99;hang 2");
        x.crane(0, 0);
        x.thing(35, 0);
        x.thing(10, 0);
        x.see(1, 1, 1);
        due.is("5: GRIEFS by what hangs instead", x.load(0, 7), 9 + 49);
        due.is("5: the least", x.load(0, 8), 31);
        x.see(1, 12, 2);
        x.see(0, 0, 0);
        x.see(0, 12, 0);
        due.is("5: by all rows", x.load(0, 7), 58);
        due.is("5: of the other", x.load(1, 7), 31 + 11);
        due.is("5: the least of the other", x.load(1, 8), 0);
        x.see(0, 0, 2);
        due.is("5: by STATE now", x.load(0, 7), 0);
        GriefCranes y = new GriefCranes();
        y.crane(4, 9);
        y.thing(0, 0);
        y.see(0, 12, 2);
        due.is("5: by a GIANT", y.load(0, 7), 40 + 29);
        y.see(-1, 0, 0);
        y.see(0, 2, 0);
        due.is("5: not by a GIANT", y.load(0, 7), 10 + 21);
        due.is("5: the least not by a GIANT", y.load(0, 8), 40);
    }

    private static void seenFromNow() {
        GriefCranes x = new GriefCranes();
        x.crane(0, 0);
        x.thing(10, 0);
        x.see(0, 2, 2);
        due.is("5: not behind 2 from HOUR 0", x.load(0, 7), 0);
        x.pass(1);
        due.is("5: behind 2 from HOUR 1", x.load(0, 7), 100);
        x.see(-1, 0, 0);
        x.see(0, 0, 1);
        due.is("5: now", x.load(0, 7), 100);
        x.pass(2);
        due.is("5: now no more", x.load(0, 7), 0);
    }

    private static void cans() {
        GriefCranes x = new GriefCranes();
        due.is("16: no CRANE", x.can(0, 0), -1);
        x.crane(1, 0);
        x.crane(3, 5);
        x.thing(35, 0);
        x.thing(1, 1);
        due.is("16: what 2", x.can(0, 2), -1);
        due.is("16: what -1", x.can(0, -1), -1);
        due.is("16: CRANE 2", x.can(2, 0), -1);
        due.is("16: CRANE -1", x.can(-1, 0), -1);
        due.is("16: without SEEN", x.can(0, 0), 10);
        due.is("16: the least without SEEN", x.can(0, 1), 0);
        x.see(0, 1, 1);
        due.is("16: v 5 and more", x.can(0, 0), 5);
        due.is("16: the least", x.can(0, 1), 5);
        due.is("16: no v of the other", x.can(1, 0), 0);
        due.is("16: no least of the other", x.can(1, 1), -5);
        x.see(-1, 0, 0);
        x.see(1, 1, 0);
        due.is("16: WIND 2 is more than v", x.can(1, 0), 2);
        due.is("16: the least is 0", x.can(1, 1), 0);
        due.is("16: of none that matters", x.can(0, 0), 0);
        due.is("16: v stays", x.of(1, 1), 5);
    }

    private static void odds() {
        GriefCranes x = new GriefCranes();
        x.crane(0, 0);
        x.thing(10, 0);
        x.thing(99, 0);
        due.is("17: sure, above", x.odds(0, 3, 0), 1);
        due.is("17: sure, below", x.odds(0, 3, 1), 1);
        due.is("17: not so soon, above", x.odds(0, 2, 0), 0);
        due.is("17: not so soon, below", x.odds(0, 2, 1), 1);
        due.is("17: never, above", x.odds(1, 20, 0), 0);
        due.is("17: never, below", x.odds(1, 20, 1), 1);
        x.pass(1);
        x.wind(2, 5);
        due.is("17: 8 of 10, above", x.odds(0, 2, 0), 4);
        due.is("17: 8 of 10, below", x.odds(0, 2, 1), 5);
        x.wind(2, 4);
        due.is("17: 9 of 10, above", x.odds(0, 2, 0), 9);
        due.is("17: 9 of 10, below", x.odds(0, 2, 1), 10);
        x.wind(2, 8);
        due.is("17: 5 of 10, above", x.odds(0, 20, 0), 1);
        due.is("17: 5 of 10, below", x.odds(0, 20, 1), 2);
        x.wind(2, 3);
        due.is("17: 10 of 10, above", x.odds(0, 2, 0), 1);
        due.is("17: 10 of 10, below", x.odds(0, 2, 1), 1);
        due.is("17: not behind 1", x.odds(0, 1, 0), 0);
        due.is("17: WIND stays", x.told(11), 2);
        x.pass(2);
        due.is("17: LAID already", x.odds(0, 1, 0), 1);
    }

    private static void oddsOfThisHoursWind() {
        GriefCranes x = Make.with("bear 16;hang 5");
        x.crane(0, 0);
        x.thing(10, 0);
        Make.winds(x, 1, 1, 1, 1);
        x.pass(5);
        // HUNG in HOUR 0, swung in 1 to 4; the fifth, HOUR 5, is the first of the WIND that is any
        due.is("17: it is LAID by the next, above", x.odds(0, 1, 0), 1);
        GriefCranes y = Make.with("bear 16;hang 5");
        y.crane(0, 0);
        y.thing(10, 0);
        Make.winds(y, 1, 1, 1, 1);
        y.pass(1);
        // swung in HOURS 1 to 5: that WIND twice and three others
        due.is("17: each fourth HOUR, above", y.odds(0, 5, 0), 7);
        due.is("17: each fourth HOUR, below", y.odds(0, 5, 1), 10);
        GriefCranes z = new GriefCranes();
        z.crane(3, 3);
        z.thing(10, 0);
        Make.winds(z, 9, 9, 9, 9);
        due.is("17: a STEADY one, not by that WIND, above", z.odds(0, 20, 0), 0);
        Make.winds(z, 9, 1, 1, 1);
        due.is("17: a STEADY one, above", z.odds(0, 3, 0), 2);
        due.is("17: a STEADY one, below", z.odds(0, 3, 1), 5);
        due.is("17: an HOUR later it is sure", z.odds(0, 4, 0), 1);
    }

    private static void oddsRefused() {
        GriefCranes x = new GriefCranes();
        x.crane(0, 0);
        x.thing(10, 0);
        due.is("17: THING 1", x.odds(1, 1, 0), Long.MIN_VALUE);
        due.is("17: THING -1", x.odds(-1, 1, 0), Long.MIN_VALUE);
        due.is("17: n 0", x.odds(0, 0, 0), Long.MIN_VALUE);
        due.is("17: n 21", x.odds(0, 21, 0), Long.MIN_VALUE);
        due.is("17: n 20", x.odds(0, 20, 0), 1);
        due.is("17: part 2", x.odds(0, 1, 2), Long.MIN_VALUE);
        due.is("17: part -1", x.odds(0, 1, -1), Long.MIN_VALUE);
    }

    private static void mean() {
        GriefCranes x = new GriefCranes();
        due.is("18: none is STANDING", x.mean(0), Long.MIN_VALUE);
        x.crane(0, 0);
        x.thing(0, -1);
        due.is("18: 0, above", x.mean(0), 0);
        due.is("18: 0, below", x.mean(1), 1);
        x.thing(0, -1);
        due.is("18: 0 of two, below", x.mean(1), 1);
        x.thing(25, 0);
        due.is("18: 25 of three, above", x.mean(0), 25);
        due.is("18: 25 of three, below", x.mean(1), 3);
        x.thing(99, -1);
        due.is("18: 124 of four, above", x.mean(0), 31);
        due.is("18: 124 of four, below", x.mean(1), 1);
        x.thing(20, -1);
        x.thing(18, -1);
        due.is("18: 162 of six, above", x.mean(0), 27);
        due.is("18: part 2", x.mean(2), Long.MIN_VALUE);
        due.is("18: part -1", x.mean(-1), Long.MIN_VALUE);
        x.thing(0, -1);
        x.thing(2, -1);
        due.is("18: 164 of eight, above", x.mean(0), 41);
        due.is("18: 164 of eight, below", x.mean(1), 2);
        x.pass(1);
        due.is("18: HUNG is not STANDING, above", x.mean(0), 139);
        due.is("18: HUNG is not STANDING, below", x.mean(1), 7);
        GriefCranes y = new GriefCranes();
        y.thing(10, -1);
        y.thing(15, -1);
        due.is("18: 25 of two, above", y.mean(0), 25);
        due.is("18: 25 of two, below", y.mean(1), 2);
    }
}
