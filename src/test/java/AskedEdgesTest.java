/** The boundary cases of the Terms 2 behind CREW, and of the Terms 3: each sentence in a test of its own. */
public final class AskedEdgesTest {
    private static final Due due = new Due("AskedEdgesTest");
    private static String words = "";

    public static void main(String[] args) {
        seenHours();
        seenRows();
        seenStates();
        griefs();
        griefsOfOthers();
        cans();
        oddsHours();
        oddsInLowestTerms();
        oddsOfTheHighestWind();
        oddsEachFourthHour();
        oddsBeyondTheLastHour();
        means();
        planRows();
        planOfNone();
        planOfSwing();
        planOfNoCrane();
        planOfStanding();
        bookRows();
        actsWrap();
        leftFirst();
        traceOfTheLatest();
        imageOfNothing();
        imageKeeps();
        imageAtTheLimits();
        tapeNumbers();
        tapeSorts();
        tapeLengths();
        lowestBits();
        judgedOtherwise();
        judgedToTheEnd();
        judgedWithoutThings();
        due.end();
    }

    private static void says(String sentence) {
        words = sentence;
    }

    private static void is(String what, long got, long want) {
        due.is(words + ": " + what, got, want);
    }

    /** A CRANE that is sent for a THING of a GRIEF; without WIND. */
    private static GriefCranes still(String firm, int kind, int v, int grief) {
        GriefCranes x = Make.with(firm);
        x.crane(kind, v);
        x.thing(grief, 0);
        Make.winds(x, 0, 0, 0, 0);
        return x;
    }

    private static void seenHours() {
        says("SEEN: a THING, HOURS n (0 .. 12) from now");
        // LAID behind HANG and 1
        GriefCranes x = still("hang 11", 0, 0, 0);
        x.see(0, 12, 2);
        is("LAID behind 12: GRIEFS", x.load(0, 7), 31);
        is("LAID behind 12: CAN", x.can(0, 0), 10);
        GriefCranes y = still("hang 12", 0, 0, 0);
        y.see(0, 12, 2);
        is("LAID behind 13: GRIEFS", y.load(0, 7), 0);
        is("LAID behind 13: CAN", y.can(0, 0), 0);
        GriefCranes z = still("hang 12", 0, 0, 0);
        z.see(0, 0, 0);
        is("0 HOURS: GRIEFS", z.load(0, 7), 100);
        z.see(0, 0, 1);
        is("0 HOURS, two rows", z.load(0, 7), 0);
        int[] bad = {-1, 13, Integer.MAX_VALUE, Integer.MIN_VALUE};
        for (int n : bad) is("n " + n, z.see(0, n, 0), -2);
        is("two rows", z.count(3), 2);
    }

    private static void seenRows() {
        says("SEEN: 5 rows at most");
        GriefCranes x = still("hang 1", 0, 0, 0);
        int[][] rows = {{0, 0}, {1, 1}, {2, 2}, {3, 2}};
        for (int i = 0; i < rows.length; i++) is("row", x.see(0, rows[i][0], rows[i][1]), i + 1);
        is("all four are so", x.load(0, 7), 31);
        is("the fifth", x.see(0, 12, 3), 5);
        is("the fifth is looked at, too", x.load(0, 7), 0);
        is("a sixth", x.see(0, 12, 2), -4);
        is("five", x.count(3), 5);
        is("none then", x.see(-1, 0, 0), 0);
        is("without rows all is so", x.load(0, 7), 100);
    }

    private static void seenStates() {
        says("SEEN: its STATE then");
        GriefCranes x = still("bear 0;hang 9", 0, 0, 0);
        x.wind(1, 1);
        int[] states = {0, 1, 3, 3};
        for (int n = 0; n < states.length; n++) {
            for (int state = 0; state <= 3; state++) {
                x.see(-1, 0, 0);
                x.see(0, n, state);
                is("STATE " + state + " behind " + n, x.can(0, 0), state == states[n] ? 10 : 0);
            }
        }
        is("STATE -1", x.see(0, 0, -1), -2);
        is("STATE 4", x.see(0, 0, 4), -2);
    }

    private static void griefs() {
        says("GRIEFS: how many numbers (0 .. 99) there are; the least (-5: none)");
        // POWER, STATE seen behind an HOUR, how many, the least
        String[] firms = {"strong 69 p=0", "strong 69 p=0", "strong 68 p=0", "strong 68 p=0", "weak 30 p=0", "weak 30 p=0",
            "weak 31 p=0", "weak 31 p=0", "", ""};
        int[][] dues = {{1, 100, 0}, {0, 0, -5}, {1, 99, 0}, {0, 1, 99}, {1, 1, 0}, {0, 99, 1}, {1, 0, -5}, {0, 100, 0},
            {1, 31, 0}, {0, 69, 31}};
        for (int i = 0; i < firms.length; i++) {
            GriefCranes x = still(firms[i], 0, 0, 50);
            x.see(0, 1, dues[i][0]);
            is("how many by '" + firms[i] + "', STATE " + dues[i][0], x.load(0, 7), dues[i][1]);
            is("the least by '" + firms[i] + "', STATE " + dues[i][0], x.load(0, 8), dues[i][2]);
            is("its GRIEF stays", x.load(0, 0), 50);
        }
    }

    private static void griefsOfOthers() {
        says("GRIEFS: were that its GRIEF, all of SEEN is so");
        GriefCranes x = still("", 0, 0, 30);
        x.thing(10, 0);
        x.thing(10, -1);
        x.see(1, 1, 1);
        is("the first must not be lifted: how many", x.load(0, 7), 69);
        is("the first must not be lifted: the least", x.load(0, 8), 31);
        is("the second is never first", x.load(1, 7), 0);
        is("the third is of no matter", x.load(2, 7), 0);
        x.see(-1, 0, 0);
        x.see(0, 12, 2);
        is("the third is of no matter, all is so", x.load(2, 7), 100);
        is("the least then", x.load(2, 8), 0);
    }

    private static void cans() {
        says("CAN: how many numbers v (0 .. 9) likewise; the least (-5: none)");
        // a JIB, GRIEF and STATE seen behind an HOUR, how many, the least
        int[][] rows = {{30, 1, 10, 0}, {31, 1, 9, 1}, {39, 1, 1, 9}, {40, 1, 0, -5}, {30, 0, 0, -5}, {31, 0, 1, 0},
            {39, 0, 9, 0}, {40, 0, 10, 0}};
        for (int[] row : rows) {
            GriefCranes x = still("", 1, 5, row[0]);
            x.see(0, 1, row[1]);
            is("how many, GRIEF " + row[0] + ", STATE " + row[1], x.can(0, 0), row[2]);
            is("the least, GRIEF " + row[0] + ", STATE " + row[1], x.can(0, 1), row[3]);
            is("its v stays", x.of(0, 1), 5);
        }
        GriefCranes y = still("strong 1 v=7", 0, 0, 31);
        is("without SEEN, how many", y.can(0, 0), 10);
        is("without SEEN, the least", y.can(0, 1), 0);
        y.see(0, 1, 1);
        is("by a FIRM, how many", y.can(0, 0), 1);
        is("by a FIRM, the least", y.can(0, 1), 7);
    }

    private static void fraction(String what, GriefCranes x, int thing, int n, long above, long below) {
        is(what + ", above", x.odds(thing, n, 0), above);
        is(what + ", below", x.odds(thing, n, 1), below);
    }

    private static void oddsHours() {
        says("ODDS of a THING and n HOURS (1 .. 20)");
        fraction("LAID by the 20th", still("bear 99;hang 19", 0, 0, 0), 0, 20, 1, 1);
        fraction("LAID by the 20th, but 19 go", still("bear 99;hang 19", 0, 0, 0), 0, 19, 0, 1);
        GriefCranes x = still("hang 1", 0, 0, 0);
        fraction("not in 1", x, 0, 1, 0, 1);
        x.pass(1);
        fraction("in 1", x, 0, 1, 1, 1);
        int[] bad = {0, -1, 21, Integer.MAX_VALUE, Integer.MIN_VALUE};
        for (int n : bad) fraction("n " + n, x, 0, n, Long.MIN_VALUE, Long.MIN_VALUE);
        int[] none = {-1, 1, Integer.MAX_VALUE, Integer.MIN_VALUE};
        for (int thing : none) fraction("THING " + thing, x, thing, 1, Long.MIN_VALUE, Long.MIN_VALUE);
        int[] parts = {-1, 2, Integer.MAX_VALUE, Integer.MIN_VALUE};
        for (int part : parts) is("part " + part, x.odds(0, 1, part), Long.MIN_VALUE);
    }

    private static void oddsInLowestTerms() {
        says("ODDS: how likely it is LAID behind n: a fraction in lowest terms");
        // LAID, if the WIND of its one HOUR is BEAR or less
        long[][] terms = {{1, 10}, {1, 5}, {3, 10}, {2, 5}, {1, 2}, {3, 5}, {7, 10}, {4, 5}, {9, 10}, {1, 1}};
        for (int bear = 0; bear <= 9; bear++) {
            GriefCranes x = still("hang 1;bear " + bear, 0, 0, 0);
            x.pass(1);
            fraction("BEAR " + bear, x, 0, 1, terms[bear][0], terms[bear][1]);
            fraction("BEAR " + bear + ", of what is not sent for", withAnother(x), 1, 20, 0, 1);
        }
    }

    private static GriefCranes withAnother(GriefCranes x) {
        x.thing(0, -1);
        return x;
    }

    private static void oddsOfTheHighestWind() {
        says("ODDS: if that one of WIND that is this HOUR's is any of 0 .. 9");
        GriefCranes x = Make.with("bear 8;hang 2");
        Make.winds(x, 0, 0, 0, 0);
        x.crane(0, 0);
        x.pass(3);
        x.thing(0, 0);
        x.thing(0, 0);
        x.pass(1);
        // only by 9 the first falls, so that the second hangs an HOUR earlier
        fraction("the second, by 9 alone", x, 1, 4, 1, 10);
        fraction("the second, an HOUR later", x, 1, 5, 1, 1);
        fraction("the first", x, 0, 2, 9, 10);
        is("WIND stays", x.told(10), 0);
    }

    private static void oddsEachFourthHour() {
        says("ODDS: from now on (so each fourth HOUR)");
        GriefCranes x = Make.with("bear 9;hang 10");
        Make.winds(x, 0, 0, 0, 0);
        x.crane(0, 0);
        x.thing(0, 0);
        x.pass(1);
        // TIME 10 is by the HOURS 1 to 10: WIND 1 in 1, 5, 9
        fraction("three times that WIND", x, 0, 10, 2, 5);
        x.pass(1);
        // WIND 2 in 2, 6, 10
        fraction("that of the next", x, 0, 9, 2, 5);
        x.pass(1);
        // WIND 3 in 3, 7
        fraction("twice that WIND", x, 0, 8, 1, 2);
        x.pass(4);
        // WIND 3 in 7
        fraction("once that WIND", x, 0, 4, 1, 1);
        fraction("not by 3", x, 0, 3, 0, 1);
    }

    private static void oddsBeyondTheLastHour() {
        says("ODDS: that one of WIND that is this HOUR's, beyond 9999, too");
        GriefCranes x = Make.with("bear 9;hang 5");
        Make.winds(x, 0, 0, 0, 0);
        x.crane(0, 0);
        while (x.told(0) < 9998) x.pass(Math.min(60, 9998 - x.told(0)));
        x.thing(0, 0);
        x.pass(1);
        // TIME 5 is by the HOURS 9999 to 10003: WIND 3 in the first and the last
        fraction("twice that WIND", x, 0, 5, 1, 2);
    }

    private static void mean(String what, GriefCranes x, long above, long below) {
        is(what + ", above", x.mean(0), above);
        is(what + ", below", x.mean(1), below);
    }

    private static void means() {
        says("MEAN: a fraction in lowest terms (NO: none is)");
        GriefCranes x = new GriefCranes();
        mean("no THINGS", x, Long.MIN_VALUE, Long.MIN_VALUE);
        x.crane(0, 0);
        x.thing(0, 0);
        mean("0", x, 0, 1);
        x.pass(1);
        mean("HUNG", x, Long.MIN_VALUE, Long.MIN_VALUE);
        x.pass(2);
        mean("LAID", x, Long.MIN_VALUE, Long.MIN_VALUE);
        x.thing(99, -1);
        mean("99", x, 99, 1);
        x.thing(98, -1);
        mean("197 of 2", x, 197, 2);
        for (int i = 0; i < 2; i++) x.thing(99, -1);
        mean("395 of 4", x, 395, 4);
        x.thing(1, -1);
        mean("396 of 5", x, 396, 5);
        x.thing(0, -1);
        mean("396 of 6", x, 66, 1);
        x.thing(3, -1);
        mean("399 of 7", x, 57, 1);
        GriefCranes y = new GriefCranes();
        for (int t = 0; t < 8; t++) y.thing(99, -1);
        mean("the most", y, 99, 1);
        GriefCranes z = new GriefCranes();
        for (int t = 0; t < 8; t++) z.thing(t == 7 ? 4 : 0, -1);
        mean("4 of 8", z, 1, 2);
        GriefCranes fallen = still("bear 0", 0, 0, 0);
        fallen.wind(1, 1);
        fallen.pass(2);
        mean("FALLEN", fallen, Long.MIN_VALUE, Long.MIN_VALUE);
    }

    private static void planRows() {
        says("a PLAN: 10 rows at most");
        GriefCranes x = still("hang 9", 0, 0, 0);
        for (int i = 1; i <= 10; i++) {
            is("ENDS by " + (i - 1) + " HOURS", x.ends(0), 0);
            is("row", x.plan(0, 0), i);
        }
        is("the tenth goes, too", x.ends(0), 1);
        is("an eleventh", x.plan(3, 0), -4);
        is("ENDS of ten", x.ends(0), 1);
        is("ten", x.count(4), 10);
    }

    private static void planOfNone() {
        says("ENDS of an empty PLAN: as it is");
        GriefCranes x = still("", 0, 0, 0);
        is("LAID", x.ends(0), 0);
        is("FALLEN", x.ends(1), 0);
        x.pass(3);
        is("LAID as it is", x.ends(0), 1);
        GriefCranes y = still("bear 0", 0, 0, 0);
        y.wind(1, 1);
        y.pass(2);
        is("FALLEN as it is", y.ends(1), 1);
        int[] none = {-1, 2, Integer.MAX_VALUE, Integer.MIN_VALUE};
        for (int what : none) is("what " + what, y.ends(what), -1);
    }

    private static void planOfSwing() {
        says("a PLAN: 1 SWING of THING n is 0");
        int[][] rows = {{8, 1}, {9, 0}};
        for (int[] row : rows) {
            GriefCranes x = still("hang 9;bear " + row[0], 0, 0, 0);
            Make.winds(x, 9, 1, 9, 9);
            x.pass(2);
            is("SWING", x.load(0, 3), 1);
            x.plan(0, 0);
            is("it falls without it, BEAR " + row[0], x.ends(1), 1);
            x.plan(-1, 0);
            x.plan(1, 0);
            x.plan(0, 0);
            is("9 from 0 on, BEAR " + row[0], x.ends(1), row[1]);
        }
    }

    private static void planOfNoCrane() {
        says("a PLAN: 2 no CRANE is sent for THING n, if it is STANDING");
        GriefCranes x = still("hang 1", 0, 0, 0);
        x.plan(2, 0);
        x.plan(0, 0);
        x.plan(0, 0);
        is("STANDING", x.ends(0), 0);
        x.pass(1);
        is("HUNG", x.ends(0), 1);
        x.pass(1);
        is("LAID", x.ends(0), 1);
        x.plan(-1, 0);
        x.plan(2, 0);
        x.plan(3, 0);
        x.plan(0, 0);
        x.plan(0, 0);
        is("LAID keeps its CRANE", x.ends(0), 1);
    }

    private static void planOfStanding() {
        says("a PLAN: 3 THING n is STANDING, SWING and TIME 0");
        GriefCranes x = still("hang 3", 0, 0, 0);
        x.thing(0, 0);
        x.pass(3);
        x.plan(3, 0);
        int[] laid = {0, 0, 0, 0, 1, 1};
        for (int n = 0; n < laid.length; n++) {
            is("its TIME from 0, " + n + " HOURS", x.ends(0), laid[n]);
            x.plan(0, 0);
        }
        x.plan(-1, 0);
        x.plan(3, 1);
        x.plan(0, 0);
        is("what is STANDING stays so", x.ends(0), 1);
        GriefCranes y = still("hang 9;bear 9", 0, 0, 0);
        Make.winds(y, 9, 9, 9, 9);
        y.pass(3);
        is("FALLEN", y.load(0, 2), 3);
        y.plan(3, 0);
        is("FALLEN stands", y.ends(1), 0);
        y.plan(0, 0);
        y.plan(0, 0);
        is("SWING from 0", y.ends(1), 0);
        y.plan(0, 0);
        is("it falls again", y.ends(1), 1);
    }

    private static void bookRows() {
        says("a BOOK: THINGS, GRIEF (0 .. 99; 8 at most); the first of these rows by which it is otherwise now");
        GriefCranes x = new GriefCranes();
        is("an empty BOOK", x.looked(), -5);
        x.thing(0, -1);
        x.thing(99, -1);
        for (int i = 1; i <= 7; i++) is("row", x.book(i % 2, i % 2 * 99), i);
        is("seven are so", x.looked(), -5);
        is("the eighth", x.book(0, 1), 8);
        is("the eighth is otherwise", x.looked(), 7);
        is("a ninth", x.book(0, 0), -4);
        is("eight", x.count(5), 8);
        x.book(-1, 0);
        is("empty again", x.looked(), -5);
        x.book(0, 99);
        x.book(1, 0);
        is("the first of two", x.looked(), 0);
        x.book(-1, 0);
        x.book(1, 98);
        is("one less", x.looked(), 0);
    }

    private static void actsWrap() {
        says("ACTS of a CRANE with x (wrapping)");
        int most = Integer.MAX_VALUE;
        int least = Integer.MIN_VALUE;
        GriefCranes x = new GriefCranes();
        x.crane(0, 9);
        x.crane(0, 9);
        is("leans, 0 more", x.act(0, 0, most), most);
        is("leans, 1 more", x.act(1, 0, most), least);
        is("lifts, 9 less", x.act(0, 1, least), most - 8);
        is("lifts, 9 less, not so low", x.act(0, 1, least + 9), least);
        is("tells, twice", x.act(1, 2, (1 << 30) + 8), least);
        is("tells, twice less", x.act(1, 2, (1 << 30) + 7), most - 1);
        GriefCranes y = new GriefCranes();
        y.crane(4, 0);
        is("the least turned is itself", y.act(0, 0, least), least);
        is("the most and 1", y.act(0, 1, most), least ^ 6);
        GriefCranes z = new GriefCranes();
        z.crane(2, 0);
        is("three times", z.act(0, 0, least), least);
        is("three times the most", z.act(0, 0, most), most - 2);
    }

    private static void leftFirst() {
        says("all that stands in a body is done from the left on");
        GriefCranes x = new GriefCranes();
        x.crane(6, 0);
        x.act(0, 2, 3);
        int[] bodies = {40, 12, 70, 11, 71, 10, 10, 70, 11, 71, 10, 10};
        for (int i = 0; i < bodies.length; i++) is("body " + i, x.trace(i), bodies[i]);
        is("how many", x.count(7), bodies.length);
    }

    private static void traceOfTheLatest() {
        says("THE TRACE: the bodies that ran in the latest act(); the first 20 are kept");
        GriefCranes x = new GriefCranes();
        for (int i = -1; i <= 25; i++) is("before any, " + i, x.trace(i), -1);
        x.crane(3, 0);
        x.crane(0, 0);
        x.act(0, 2, 1);
        int[] bodies = {40, 12, 11, 10, 11, 10};
        for (int i = 0; i <= 25; i++) is("six, " + i, x.trace(i), i < 6 ? bodies[i] : -1);
        x.act(1, 1, 1);
        for (int i = 0; i <= 25; i++) is("two, " + i, x.trace(i), i == 0 ? 11 : i == 1 ? 10 : -1);
        x.act(1, 3, 1);
        for (int i = 0; i <= 25; i++) is("none, " + i, x.trace(i), -1);
        is("none ran", x.count(7), 0);
    }

    private static void imageOfNothing() {
        says("THE IMAGE of an object without anything");
        GriefCranes x = new GriefCranes();
        String before = Make.state(x);
        is("undo without one", x.undo(), -3);
        is("image", x.image(), 0);
        for (int c = 0; c < 6; c++) x.crane(c, c);
        for (int t = 0; t < 8; t++) x.thing(t, t % 6);
        x.pass(60);
        is("undo", x.undo(), 0);
        due.holds(words + ": all is as at first", before.equals(Make.state(x)));
        is("the first CRANE again", x.crane(1, 1), 0);
        is("the first THING again", x.thing(1, -1), 0);
        is("its STATE", x.load(0, 2), 0);
    }

    private static void imageKeeps() {
        says("THE IMAGE stays, by whatever is asked, refused or undone");
        GriefCranes x = still("", 5, 3, 20);
        x.image();
        String before = Make.state(x);
        for (int i = 0; i < 3; i++) {
            x.pass(1 + i);
            x.best(20, 0);
            x.load(0, 7);
            x.ends(0);
            x.crane(7, 0);
            is("undo", x.undo(), 1);
            due.holds(words + ": as it was", before.equals(Make.state(x)));
        }
    }

    private static void imageAtTheLimits() {
        says("THE IMAGE of all that is full");
        GriefCranes x = new GriefCranes();
        for (int c = 0; c < 6; c++) x.crane(6, 9);
        for (int t = 0; t < 8; t++) x.thing(99 - t, t % 6);
        for (int c = 0; c < 6; c++) {
            for (int part = 0; part < 4; part++) x.row(c, part, c + part);
        }
        for (int i = 0; i < 5; i++) x.see(7, 12, 0);
        for (int i = 0; i < 10; i++) x.plan(3, 7);
        for (int i = 0; i < 8; i++) x.book(7, 92);
        String before = Make.state(x);
        is("image", x.image(), 6);
        x.see(-1, 0, 0);
        x.plan(-1, 0);
        x.book(-1, 0);
        for (int c = 0; c < 6; c++) {
            for (int part = 0; part < 4; part++) x.row(c, part, 0);
        }
        x.book(0, 0);
        is("undo", x.undo(), 6);
        due.holds(words + ": all is as it was", before.equals(Make.state(x)));
        is("SEEN is full", x.see(0, 0, 0), -4);
        is("the PLAN is full", x.plan(0, 0), -4);
        is("the BOOK is full", x.book(0, 0), -4);
        is("CRANES are full", x.crane(0, 0), -4);
        is("THINGS are full", x.thing(0, 0), -4);
    }

    private static void tapeNumbers() {
        says("TAPES 0 .. 5 hold nothing (at first)");
        GriefCranes x = new GriefCranes();
        for (int tape = 0; tape < 6; tape++) {
            is("item", x.item(tape, 0, 1), -11);
            is("read", x.read(tape, 0), Long.MIN_VALUE);
            is("shift", x.shift(tape, 0, tape, 0, 0), -11);
        }
        int[] none = {-1, 6, Integer.MAX_VALUE, Integer.MIN_VALUE};
        for (int tape : none) {
            is("tape " + tape, x.tape(tape, 0, 1), -1);
            is("item " + tape, x.item(tape, 0, 1), -1);
            is("read " + tape, x.read(tape, 0), Long.MIN_VALUE);
            is("shift from " + tape, x.shift(tape, 0, 0, 0, 0), -1);
            is("shift to " + tape, x.shift(0, 0, tape, 0, 0), -1);
            is("judge " + tape, x.judge(tape, 0), -1);
        }
    }

    private static void tapeSorts() {
        says("a row of 0 bytes, 1 shorts, 2 ints, 3 longs, 4 booleans (items 0, 1)");
        long v = 0x7654321087654321L;
        long[] items = {0x21, 0x4321, 0x87654321 , v, 1};
        for (int sort = 0; sort <= 4; sort++) {
            GriefCranes x = new GriefCranes();
            is("tape", x.tape(0, sort, 1), 1);
            is("at first", x.read(0, 0), 0);
            x.item(0, 0, v);
            is("sort " + sort, x.read(0, 0), items[sort]);
            x.item(0, 0, -1);
            is("-1 of sort " + sort, x.read(0, 0), sort == 4 ? 1 : -1);
        }
        GriefCranes y = new GriefCranes();
        int[] bad = {-2, 5, Integer.MAX_VALUE, Integer.MIN_VALUE};
        for (int sort : bad) {
            is("sort " + sort, y.tape(0, sort, 1), -2);
            is("sort " + sort + ", n -1", y.tape(0, sort, -1), -2);
            is("sort " + sort + ", n 61", y.tape(0, sort, 61), -2);
        }
        is("nothing came", y.item(0, 0, 0), -11);
    }

    private static void tapeLengths() {
        says("a row of n (0 .. 60), all 0; SIZE: a size below 0; PLACE: no such place");
        for (int sort = 0; sort <= 4; sort++) {
            for (int n : new int[] {0, 1, 59, 60}) {
                GriefCranes x = new GriefCranes();
                is("n " + n, x.tape(1, sort, n), 1);
                for (int i = 0; i < n; i++) is("place " + i, x.item(1, i, 1), 1);
                for (int i = 0; i < n; i++) is("item " + i, x.read(1, i), 1);
                for (int i : new int[] {-1, n, n + 1, 61, Integer.MAX_VALUE, Integer.MIN_VALUE}) {
                    is("no place " + i, x.item(1, i, 1), -13);
                    is("no item " + i, x.read(1, i), Long.MIN_VALUE);
                }
                is("anew", x.tape(1, sort, 60), 1);
                for (int i = 0; i < 60; i++) is("0 again", x.read(1, i), 0);
            }
            GriefCranes y = new GriefCranes();
            is("n 61", y.tape(1, sort, 61), -2);
            is("n most", y.tape(1, sort, Integer.MAX_VALUE), -2);
            is("n -1", y.tape(1, sort, -1), -14);
            is("n least", y.tape(1, sort, Integer.MIN_VALUE), -14);
            is("nothing came", y.item(1, 0, 0), -11);
        }
    }

    private static void lowestBits() {
        says("its lowest bits, as many as an item has; booleans: whether v is not 0");
        for (int bit = 0; bit < 64; bit++) {
            GriefCranes x = new GriefCranes();
            for (int sort = 0; sort <= 4; sort++) {
                x.tape(sort, sort, 1);
                x.item(sort, 0, 1L << bit);
            }
            is("byte of bit " + bit, x.read(0, 0), bit < 7 ? 1L << bit : bit == 7 ? -128 : 0);
            is("short of bit " + bit, x.read(1, 0), bit < 15 ? 1L << bit : bit == 15 ? -32768 : 0);
            is("int of bit " + bit, x.read(2, 0), bit < 31 ? 1L << bit : bit == 31 ? Integer.MIN_VALUE : 0);
            is("long of bit " + bit, x.read(3, 0), 1L << bit);
            is("boolean of bit " + bit, x.read(4, 0), 1);
        }
    }

    /** Eight THINGS of GRIEF 0 .. 99, and a row of bytes of their GRIEFS, from a place on, of so many. */
    private static GriefCranes judged(int from, int items) {
        GriefCranes x = new GriefCranes();
        x.tape(2, 0, items);
        for (int t = 0; t < 8; t++) {
            x.thing(t == 7 ? 99 : 14 * t, -1);
            x.item(2, from + t, t == 7 ? 99 : 14 * t);
        }
        return x;
    }

    private static void judgedOtherwise() {
        says("JUDGED: the first that is otherwise (counted from 0 from that place on); -5: none");
        for (int from : new int[] {0, 1, 51, 52}) {
            GriefCranes x = judged(from, 60);
            is("all is so from " + from, x.judge(2, from), -5);
            for (int t = 7; t >= 0; t--) {
                x.item(2, from + t, 100);
                is("otherwise from " + from + ", THING " + t, x.judge(2, from), t);
            }
        }
        GriefCranes y = judged(0, 8);
        y.item(2, 3, -42);
        is("a byte below 0", y.judge(2, 0), 3);
        y.item(2, 3, 42 + 256);
        is("the lowest bits alone", y.judge(2, 0), -5);
    }

    private static void judgedToTheEnd() {
        says("100 and how many were looked at, if the row ends ahead of that (or the place is below 0, or the TAPE holds nothing)");
        for (int items = 0; items <= 8; items++) {
            is("a row of " + items, judged(0, items).judge(2, 0), items == 8 ? -5 : 100 + items);
            is("a row of " + items + " more", judged(3, 3 + items).judge(2, 3), items == 8 ? -5 : 100 + items);
        }
        GriefCranes x = judged(0, 8);
        int[] places = {8, 9, 60, Integer.MAX_VALUE, Integer.MAX_VALUE - 7, -1, -8, Integer.MIN_VALUE};
        for (int i : places) {
            is("place " + i, x.judge(2, i), 100);
            is("nothing, place " + i, x.judge(0, i), 100);
        }
        is("nothing, place 0", x.judge(0, 0), 100);
        x.item(2, 0, 5);
        is("otherwise ahead of the end", x.judge(2, 0), 0);
        x.tape(2, -1, 0);
        is("nothing any more", x.judge(2, 0), 100);
    }

    private static void judgedWithoutThings() {
        says("there are no THINGS (wherever the place is, also if the TAPE holds nothing)");
        GriefCranes x = new GriefCranes();
        x.tape(1, 0, 0);
        x.tape(2, 0, 60);
        for (int tape = 0; tape <= 2; tape++) {
            for (int i : new int[] {0, 1, 59, 60, -1, Integer.MAX_VALUE, Integer.MIN_VALUE}) is("place " + i, x.judge(tape, i), -5);
        }
        for (int sort = 1; sort <= 4; sort++) {
            x.tape(3, sort, 8);
            is("no row of bytes", x.judge(3, 0), -12);
        }
    }
}
