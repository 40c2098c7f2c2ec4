/** Promise by promise, each call's refusals: every one, the first that its words name, and that it changes nothing. */
public final class CallsEdgesTest {
    private static final Due due = new Due("CallsEdgesTest");
    private static final int NONE = -1, BAD = -2, STATE = -3, FULL = -4;
    private static final int LOW_NONE = -10001, NOTHING = -11, CAST = -12, PLACE = -13, SIZE = -14;
    private static final int MOST = Integer.MAX_VALUE, LEAST = Integer.MIN_VALUE;
    /** What no number of the document is. */
    private static final int[] OUTSIDE = {-1, 100, 128, 10000, MOST, MOST - 9, MOST - 20, LEAST, LEAST + 10, LEAST + 20};

    public static void main(String[] args) {
        constants();
        cranes();
        ofs();
        things();
        loads();
        sends();
        winds();
        rows();
        feeds();
        firms();
        tolds();
        passes();
        ons();
        bests();
        sees();
        cans();
        odds();
        means();
        plans();
        endings();
        books();
        judges();
        undos();
        acts();
        traces();
        takens();
        counts();
        tapes();
        items();
        shifts();
        due.end();
    }

    /** A refusal is as due, and nothing is otherwise than before; each object is looked at once it has been refused. */
    private static final class Refusals {
        final GriefCranes x;
        final String words;
        final String before;

        Refusals(String words, GriefCranes x) {
            this.words = words;
            this.x = x;
            before = Make.inside(x);
        }

        void is(String what, long got, long want) {
            due.is(words + ": " + what, got, want);
        }

        void end() {
            due.holds(words + ": what is answered so changes nothing", before.equals(Make.inside(x)));
        }
    }

    /** Three CRANES (the last TOLD), THINGS that are LAID, HUNG and STANDING, rows told by hand, TAPES 0 to 2. */
    private static GriefCranes some() {
        GriefCranes x = Make.with("bear 40;hang 3;strong 3 k=1");
        x.crane(0, 4);
        x.crane(1, 5);
        x.crane(6, 6);
        x.row(2, 1, 4);
        x.thing(10, 0);
        x.thing(20, 1);
        x.thing(30, 2);
        x.thing(40, -1);
        x.send(1, -1);
        x.send(2, -1);
        x.pass(4);
        x.send(1, 1);
        x.pass(1);
        x.send(2, 2);
        x.see(1, 2, 1);
        x.plan(0, 0);
        x.plan(2, 2);
        x.book(1, 20);
        x.book(2, 31);
        x.tape(0, 0, 4);
        x.item(0, 1, 10);
        x.tape(1, 2, 6);
        x.item(1, 2, 77);
        x.tape(2, 0, 2);
        x.act(2, 2, 3);
        Make.type(x, "bear 5");
        return x;
    }

    private static GriefCranes full() {
        GriefCranes x = some();
        while (x.count(0) < 6) x.crane(2, 2);
        while (x.count(1) < 8) x.thing(9, 3);
        x.firm();
        while (x.count(2) < 6) Make.firm(x, "bear 40;hang 3");
        while (x.count(3) < 5) x.see(3, 1, 0);
        while (x.count(4) < 10) x.plan(0, 0);
        while (x.count(5) < 8) x.book(3, 40);
        while (x.count(6) < 100) x.feed('b');
        return x;
    }

    private static void constants() {
        due.is("NONE", GriefCranes.NONE, NONE);
        due.is("BAD", GriefCranes.BAD, BAD);
        due.is("STATE", GriefCranes.STATE, STATE);
        due.is("FULL", GriefCranes.FULL, FULL);
        due.is("NO", GriefCranes.NO, Long.MIN_VALUE);
    }

    private static void cranes() {
        for (GriefCranes x : new GriefCranes[] {new GriefCranes(), some(), full()}) {
            Refusals r = new Refusals("2: crane", x);
            r.is("KIND 7", x.crane(7, 0), NONE);
            r.is("v 10", x.crane(6, 10), BAD);
            r.is("both", x.crane(7, 10), NONE);
            for (int n : OUTSIDE) {
                r.is("KIND " + n, x.crane(n, 0), NONE);
                r.is("KIND and v " + n, x.crane(n, n), NONE);
                r.is("v " + n, x.crane(0, n), BAD);
            }
            r.end();
        }
        Refusals r = new Refusals("2: crane", full());
        for (int kind = 0; kind <= 6; kind++) r.is("a seventh", r.x.crane(kind, 0), FULL);
        r.end();
        GriefCranes y = new GriefCranes();
        for (int c = 0; c < 6; c++) due.is("2: crane: the ends are within", y.crane(c % 2 * 6, c / 2 % 2 * 9), c);
    }

    private static void ofs() {
        Refusals r = new Refusals("3: of", some());
        for (int n : OUTSIDE) {
            r.is("CRANE " + n, r.x.of(n, 0), LOW_NONE);
            r.is("what " + n, r.x.of(0, n), LOW_NONE);
            r.is("both " + n, r.x.of(n, n), LOW_NONE);
        }
        r.is("CRANE 3", r.x.of(3, 0), LOW_NONE);
        r.is("CRANE 3, POWER", r.x.of(3, 10), LOW_NONE);
        for (int what = 4; what <= 9; what++) r.is("what " + what, r.x.of(2, what), LOW_NONE);
        for (int what = 14; what <= 20; what++) r.is("what " + what, r.x.of(2, what), LOW_NONE);
        r.is("the last CRANE, the last THING", r.x.of(2, 13), 30);
        r.is("HUNG by none", r.x.of(0, 3), -5);
        r.is("HUNG by it", r.x.of(1, 3), 1);
        r.end();
        due.is("3: of: without CRANES", new GriefCranes().of(0, 0), LOW_NONE);
    }

    private static void things() {
        for (GriefCranes x : new GriefCranes[] {new GriefCranes(), some(), full()}) {
            Refusals r = new Refusals("4: thing", x);
            r.is("one CRANE too many", x.thing(0, x.count(0)), NONE);
            r.is("CRANE -2", x.thing(0, -2), NONE);
            r.is("both", x.thing(100, -2), NONE);
            for (int n : OUTSIDE) {
                if (n != -1) r.is("CRANE " + n, x.thing(0, n), NONE);
                r.is("GRIEF " + n, x.thing(n, -1), BAD);
            }
            r.end();
        }
        Refusals r = new Refusals("4: thing", full());
        r.is("a ninth", r.x.thing(0, -1), FULL);
        r.is("a ninth with a CRANE", r.x.thing(99, 5), FULL);
        r.end();
        GriefCranes y = new GriefCranes();
        y.crane(0, 0);
        for (int t = 0; t < 8; t++) due.is("4: thing: the ends are within", y.thing(t % 2 * 99, t / 2 % 2 - 1), t);
    }

    private static void loads() {
        Refusals r = new Refusals("5: load", some());
        for (int n : OUTSIDE) {
            r.is("THING " + n, r.x.load(n, 0), NONE);
            r.is("what " + n, r.x.load(0, n), NONE);
            r.is("both " + n, r.x.load(n, n), NONE);
        }
        for (int what = 0; what <= 9; what++) r.is("THING 4, what " + what, r.x.load(4, what), NONE);
        for (int t = 0; t < 4; t++) r.is("what 9", r.x.load(t, 9), NONE);
        r.is("no CRANE", r.x.load(3, 1), -5);
        r.is("no DOWN", r.x.load(3, 5), -5);
        r.is("no SENT", r.x.load(3, 6), -5);
        r.end();
        for (int what = 0; what <= 8; what++) due.is("5: load: without THINGS", new GriefCranes().load(0, what), NONE);
    }

    private static void sends() {
        Refusals r = new Refusals("6: send", some());
        for (int n : OUTSIDE) {
            r.is("THING " + n, r.x.send(n, 0), NONE);
            if (n != -1) r.is("CRANE " + n, r.x.send(3, n), NONE);
        }
        r.is("THING 4", r.x.send(4, 0), NONE);
        r.is("CRANE 3", r.x.send(3, 3), NONE);
        r.is("LAID", r.x.send(0, 1), STATE);
        r.is("LAID, to none", r.x.send(0, -1), STATE);
        r.is("LAID, CRANE 3", r.x.send(0, 3), NONE);
        r.is("HUNG", r.x.send(1, 0), STATE);
        r.is("HUNG, to its own", r.x.send(1, 1), STATE);
        r.is("HUNG, CRANE -2", r.x.send(1, -2), NONE);
        r.end();
        GriefCranes y = Make.with("bear 0");
        y.crane(0, 0);
        y.thing(0, 0);
        y.pass(2);
        due.is("6: send: FALLEN", y.send(0, -1), STATE);
        due.is("6: send: it keeps its CRANE", y.load(0, 1), 0);
        due.is("6: send: its own CRANE again", r.x.send(2, 2), 2);
        due.is("6: send: to none", r.x.send(2, -1), 2);
        due.is("6: send: none to none", r.x.send(2, -1), -5);
        due.is("6: send: the last CRANE", r.x.send(2, 2), -5);
    }

    private static void winds() {
        Refusals r = new Refusals("7: wind", some());
        for (int n : OUTSIDE) {
            r.is("k " + n, r.x.wind(n, 0), NONE);
            r.is("n " + n, r.x.wind(0, n), BAD);
            r.is("both " + n, r.x.wind(n, n), NONE);
        }
        r.is("k 4", r.x.wind(4, 0), NONE);
        r.is("n 10", r.x.wind(3, 10), BAD);
        r.is("both", r.x.wind(4, 10), NONE);
        r.end();
        for (int k = 0; k < 4; k++) {
            due.is("7: wind: n 9", r.x.wind(k, 9), 2);
            due.is("7: wind: n 0", r.x.wind(k, 0), 9);
            due.is("7: wind: it was 0", r.x.wind(k, 0), 0);
        }
    }

    private static void rows() {
        Refusals r = new Refusals("8: row", some());
        for (int n : OUTSIDE) {
            r.is("CRANE " + n, r.x.row(n, 0, 0), NONE);
            r.is("part " + n, r.x.row(2, n, 0), NONE);
            r.is("n " + n, r.x.row(2, 0, n), BAD);
            r.is("all " + n, r.x.row(n, n, n), NONE);
            r.is("part and n " + n, r.x.row(2, n, n), NONE);
            r.is("of another KIND, part " + n, r.x.row(0, n, 0), NONE);
            r.is("of another KIND, n " + n, r.x.row(0, 0, n), BAD);
        }
        r.is("CRANE 3", r.x.row(3, 0, 0), NONE);
        r.is("part 4", r.x.row(2, 4, 0), NONE);
        r.is("n 10", r.x.row(2, 3, 10), BAD);
        r.is("of a CRANE", r.x.row(0, 0, 0), STATE);
        r.is("of a JIB", r.x.row(1, 3, 9), STATE);
        r.end();
        for (int kind = 0; kind <= 6; kind++) {
            GriefCranes x = new GriefCranes();
            x.crane(kind, 0);
            due.is("8: row: KIND " + kind, x.row(0, 3, 9), kind == 6 ? 0 : STATE);
            due.is("8: row: KIND " + kind + " again", x.row(0, 3, 0), kind == 6 ? 9 : STATE);
        }
    }

    private static void feeds() {
        for (GriefCranes x : new GriefCranes[] {new GriefCranes(), some(), full()}) {
            Refusals r = new Refusals("9: feed", x);
            for (int n : OUTSIDE) {
                if (n != 100) r.is("sign " + n, x.feed(n), BAD);
            }
            r.is("sign 129", x.feed(129), BAD);
            r.end();
        }
        Refusals r = new Refusals("9: feed", full());
        r.is("a 101st", r.x.feed(0), FULL);
        r.is("a 101st, 127", r.x.feed(127), FULL);
        r.end();
        GriefCranes y = new GriefCranes();
        for (int i = 1; i <= 100; i++) due.is("9: feed: the ends are within", y.feed(i % 2 * 127), i);
    }

    private static void firms() {
        Refusals r = new Refusals("10: firm", full());
        r.is("a seventh", r.x.firm(), FULL);
        r.is("a seventh again", r.x.firm(), FULL);
        r.end();
        GriefCranes y = full();
        y.image();
        y.undo();
        due.is("10: firm: a seventh behind undo", y.firm(), FULL);
        GriefCranes z = new GriefCranes();
        due.is("10: firm: an empty TEXT", z.firm(), -10);
        for (int i = 0; i < 6; i++) Make.firm(z, "hang " + i);
        due.is("10: firm: a seventh of an empty TEXT", z.firm(), FULL);
        due.is("10: firm: the sixth holds", z.told(2), 5);
        due.is("10: firm: a seventh with a FAULT", Make.firm(z, "hang"), FULL);
        due.is("10: firm: THE TEXT stays", z.count(6), 4);
        GriefCranes w = some();
        due.is("10: firm: a FAULT", Make.firm(w, "5;"), -18);
        due.is("10: firm: THE TEXT is empty", w.count(6), 0);
        due.is("10: firm: the one that held holds", w.told(1) * 100 + w.told(2), 4003);
        due.is("10: firm: no more FIRMS", w.count(2), 1);
    }

    private static void tolds() {
        Refusals r = new Refusals("11: told", some());
        for (int n : OUTSIDE) r.is("what " + n, r.x.told(n), NONE);
        for (int what = 7; what <= 9; what++) r.is("what " + what, r.x.told(what), NONE);
        r.is("what 14", r.x.told(14), NONE);
        r.is("what 13", r.x.told(13), 2);
        r.is("what 6", r.x.told(6), 0);
        r.end();
    }

    private static void passes() {
        Refusals r = new Refusals("12: pass", some());
        for (int n : OUTSIDE) r.is("n " + n, r.x.pass(n), BAD);
        r.is("n 61", r.x.pass(61), BAD);
        r.is("n 0", r.x.pass(0), 5);
        r.end();
        GriefCranes y = new GriefCranes();
        while (y.told(0) < 9960) y.pass(60);
        y.crane(0, 0);
        y.thing(0, 0);
        Refusals s = new Refusals("12: pass", y);
        for (int n = 40; n <= 60; n++) s.is("to " + (9960 + n), y.pass(n), STATE);
        s.end();
        due.is("12: pass: to 9999", y.pass(39), 9999);
        due.is("12: pass: HOURS went", y.load(0, 2), 2);
    }

    private static void ons() {
        Refusals r = new Refusals("13: on", some());
        for (int n : OUTSIDE) {
            r.is("what " + n, r.x.on(0, n), NONE);
            r.is("n " + n, r.x.on(n, 0), BAD);
            r.is("n " + n + ", STATE", r.x.on(n, 13), BAD);
            r.is("n " + n + ", SWING", r.x.on(n, 23), BAD);
            r.is("both " + n, r.x.on(n, n), NONE);
        }
        for (int what : new int[] {2, 9, 14, 17, 18, 19, 24, 27, 28}) {
            r.is("what " + what, r.x.on(60, what), NONE);
            r.is("what " + what + ", n 61", r.x.on(61, what), NONE);
        }
        r.is("n 61", r.x.on(61, 23), BAD);
        r.is("n 60", r.x.on(60, 13), 0);
        r.end();
        due.is("13: on: without THINGS", new GriefCranes().on(60, 1), 0);
        due.is("13: on: without THINGS, STATE", new GriefCranes().on(60, 10), NONE);
    }

    private static void bests() {
        Refusals r = new Refusals("14: best", some());
        for (int n : OUTSIDE) {
            r.is("what " + n, r.x.best(1, n), NONE);
            r.is("CHANGE, n " + n, r.x.best(n, 0), BAD);
            r.is("CREW, n " + n, r.x.best(n, 1), BAD);
            r.is("both " + n, r.x.best(n, n), NONE);
        }
        r.is("what 2", r.x.best(0, 2), NONE);
        r.is("CHANGE, 0", r.x.best(0, 0), BAD);
        r.is("CHANGE, 21", r.x.best(21, 0), BAD);
        r.is("CREW, 0", r.x.best(0, 1), BAD);
        r.is("CREW, 13", r.x.best(13, 1), BAD);
        r.is("CHANGE, 1", r.x.best(1, 0), -5);
        r.is("CHANGE, 20", r.x.best(20, 0), -5);
        r.is("CREW, 1", r.x.best(1, 1), 0);
        r.is("CREW, 12", r.x.best(12, 1), 4);
        r.end();
    }

    private static void sees() {
        for (GriefCranes x : new GriefCranes[] {some(), full()}) {
            Refusals r = new Refusals("15: see", x);
            for (int n : OUTSIDE) {
                if (n != -1) r.is("THING " + n, x.see(n, 0, 0), NONE);
                if (n != -1) r.is("all " + n, x.see(n, n, n), NONE);
                r.is("n " + n, x.see(0, n, 0), BAD);
                r.is("STATE " + n, x.see(0, 0, n), BAD);
            }
            r.is("one THING too many", x.see(x.count(1), 13, 4), NONE);
            r.is("n 13", x.see(0, 13, 0), BAD);
            r.is("STATE 4", x.see(0, 12, 4), BAD);
            r.end();
        }
        Refusals r = new Refusals("15: see", full());
        r.is("a sixth", r.x.see(0, 0, 0), FULL);
        r.is("a sixth at the ends", r.x.see(7, 12, 3), FULL);
        r.end();
        for (int n : OUTSIDE) {
            GriefCranes x = full();
            due.is("15: see: none then, whatever the rest is", x.see(-1, n, n), 0);
            due.is("15: see: none", x.count(3), 0);
            due.is("15: see: the first again", x.see(7, 12, 3), 1);
        }
        due.is("15: see: none of none", new GriefCranes().see(-1, 0, 0), 0);
    }

    private static void cans() {
        Refusals r = new Refusals("16: can", some());
        for (int n : OUTSIDE) {
            r.is("CRANE " + n, r.x.can(n, 0), NONE);
            r.is("what " + n, r.x.can(0, n), NONE);
        }
        r.is("CRANE 3", r.x.can(3, 0), NONE);
        r.is("what 2", r.x.can(2, 2), NONE);
        r.end();
    }

    private static void odds() {
        Refusals r = new Refusals("17: odds", some());
        for (int n : OUTSIDE) {
            r.is("THING " + n, r.x.odds(n, 1, 0), Long.MIN_VALUE);
            r.is("n " + n, r.x.odds(0, n, 0), Long.MIN_VALUE);
            r.is("part " + n, r.x.odds(0, 1, n), Long.MIN_VALUE);
        }
        r.is("THING 4", r.x.odds(4, 1, 0), Long.MIN_VALUE);
        r.is("n 0", r.x.odds(0, 0, 0), Long.MIN_VALUE);
        r.is("n 21", r.x.odds(0, 21, 1), Long.MIN_VALUE);
        r.is("part 2", r.x.odds(0, 20, 2), Long.MIN_VALUE);
        r.is("n 20", r.x.odds(0, 20, 1), 1);
        r.end();
    }

    private static void means() {
        Refusals r = new Refusals("18: mean", some());
        for (int n : OUTSIDE) r.is("part " + n, r.x.mean(n), Long.MIN_VALUE);
        r.is("part 2", r.x.mean(2), Long.MIN_VALUE);
        r.is("70 of 2, above", r.x.mean(0), 35);
        r.is("70 of 2, below", r.x.mean(1), 1);
        r.end();
    }

    private static void plans() {
        for (GriefCranes x : new GriefCranes[] {some(), full()}) {
            Refusals r = new Refusals("19: plan", x);
            for (int n : OUTSIDE) {
                if (n != -1) r.is("what " + n, x.plan(n, 0), NONE);
                for (int what = 1; what <= 3; what++) r.is("what " + what + ", THING " + n, x.plan(what, n), NONE);
            }
            r.is("what 4", x.plan(4, 0), NONE);
            r.is("what -2", x.plan(-2, 0), NONE);
            for (int what = 1; what <= 3; what++) r.is("one THING too many", x.plan(what, x.count(1)), NONE);
            r.end();
        }
        Refusals r = new Refusals("19: plan", full());
        r.is("an eleventh HOUR", r.x.plan(0, -9), FULL);
        for (int what = 1; what <= 3; what++) r.is("an eleventh", r.x.plan(what, 7), FULL);
        r.end();
        for (int n : OUTSIDE) {
            GriefCranes x = full();
            due.is("19: plan: empty then, whatever the rest is", x.plan(-1, n), 0);
            due.is("19: plan: empty", x.count(4), 0);
            due.is("19: plan: an HOUR, whatever the THING is", x.plan(0, n), 1);
            due.is("19: plan: it goes", x.ends(0), x.on(1, 0));
        }
    }

    private static void endings() {
        Refusals r = new Refusals("20: ends", some());
        for (int n : OUTSIDE) r.is("what " + n, r.x.ends(n), NONE);
        r.is("what 2", r.x.ends(2), NONE);
        r.is("what 0", r.x.ends(0), 1);
        r.is("what 1", r.x.ends(1), 0);
        r.end();
    }

    private static void books() {
        for (GriefCranes x : new GriefCranes[] {some(), full()}) {
            Refusals r = new Refusals("21: book", x);
            for (int n : OUTSIDE) {
                if (n != -1) r.is("THING " + n, x.book(n, 0), NONE);
                if (n != -1) r.is("both " + n, x.book(n, n), NONE);
                r.is("GRIEF " + n, x.book(0, n), BAD);
            }
            r.is("one THING too many", x.book(x.count(1), 100), NONE);
            r.end();
        }
        Refusals r = new Refusals("21: book", full());
        r.is("a ninth", r.x.book(0, 0), FULL);
        r.is("a ninth at the ends", r.x.book(7, 99), FULL);
        r.end();
        for (int n : OUTSIDE) {
            GriefCranes x = full();
            due.is("21: book: empty then, whatever the rest is", x.book(-1, n), 0);
            due.is("21: book: empty", x.count(5), 0);
            due.is("22: looked: none of none", x.looked(), -5);
            due.is("21: book: the first again", x.book(7, 99), 1);
            due.is("22: looked: the first", x.looked(), 0);
        }
    }

    private static void judges() {
        Refusals r = new Refusals("23: judge", some());
        for (int n : OUTSIDE) {
            r.is("TAPE " + n, r.x.judge(n, 0), NONE);
            r.is("no row of bytes, place " + n, r.x.judge(1, n), CAST);
            r.is("place " + n, r.x.judge(0, n), 100);
            r.is("nothing, place " + n, r.x.judge(5, n), 100);
        }
        r.is("TAPE 6", r.x.judge(6, 0), NONE);
        r.is("the row ends behind one", r.x.judge(0, 1), 1);
        r.end();
    }

    private static void undos() {
        Refusals r = new Refusals("25: undo", some());
        r.is("none", r.x.undo(), STATE);
        r.is("none again", r.x.undo(), STATE);
        r.end();
        String before = Make.state(r.x);
        due.is("24: image", r.x.image(), 3);
        r.x.pass(9);
        due.is("25: undo", r.x.undo(), 3);
        due.holds("25: undo: all is as it was", before.equals(Make.state(r.x)));
    }

    private static void acts() {
        for (int n : OUTSIDE) {
            GriefCranes x = some();
            due.is("26: act: bodies", x.count(7), 12);
            due.is("26: act: CRANE " + n, x.act(n, 0, 5), 0);
            due.is("27: trace: none then", x.trace(0), NONE);
            due.is("29: count: none then", x.count(7), 0);
            x.act(2, 2, 5);
            due.is("26: act: act " + n, x.act(2, n, 5), 0);
            due.is("27: trace: none then, again", x.trace(0), NONE);
            due.is("29: count: none then, again", x.count(7), 0);
            due.is("26: act: as before", x.act(0, 0, 5), 5);
        }
        GriefCranes y = some();
        due.is("26: act: CRANE 3", y.act(3, 0, 5), 0);
        due.is("26: act: act 3", y.act(0, 3, 5), 0);
        due.is("26: act: an answer of 0", y.act(0, 0, 0), 0);
        due.is("27: trace: one, though", y.trace(0), 10);
    }

    private static void traces() {
        Refusals r = new Refusals("27: trace", some());
        for (int n : OUTSIDE) r.is("i " + n, r.x.trace(n), NONE);
        for (int i = 12; i <= 21; i++) r.is("i " + i, r.x.trace(i), NONE);
        r.is("the last", r.x.trace(11), 10);
        r.end();
    }

    private static void takens() {
        Refusals r = new Refusals("28: taken", some());
        for (int n : OUTSIDE) {
            r.is("k " + n, r.x.taken(0, n), BAD);
            r.is("both " + n, r.x.taken(n, n), BAD);
            r.is("CRANE " + n, r.x.taken(n, 0), NOTHING);
        }
        r.is("k 7", r.x.taken(0, 7), BAD);
        r.is("k 7, no CRANE", r.x.taken(3, 7), BAD);
        r.is("CRANE 3", r.x.taken(3, 6), NOTHING);
        r.is("a CRANE for a TOLD", r.x.taken(0, 6), CAST);
        r.is("a JIB for a GIANT under it", r.x.taken(1, 4), CAST);
        r.is("a TOLD for a STEADY above it", r.x.taken(2, 3), 6);
        r.is("a TOLD for a TOLD", r.x.taken(2, 6), 6);
        r.is("a CRANE for a CRANE", r.x.taken(0, 0), 0);
        r.end();
    }

    private static void counts() {
        Refusals r = new Refusals("29: count", full());
        for (int n : OUTSIDE) r.is("what " + n, r.x.count(n), BAD);
        r.is("what 8", r.x.count(8), BAD);
        int[] most = {6, 8, 6, 5, 10, 8, 100, 12};
        for (int what = 0; what < most.length; what++) r.is("what " + what, r.x.count(what), most[what]);
        r.end();
    }

    private static void tapes() {
        Refusals r = new Refusals("30: tape", some());
        for (int n : OUTSIDE) {
            r.is("TAPE " + n, r.x.tape(n, 0, 1), NONE);
            r.is("all " + n, r.x.tape(n, n, n), NONE);
            if (n != -1) r.is("sort " + n, r.x.tape(0, n, 1), BAD);
            if (n != -1) r.is("sort and n " + n, r.x.tape(0, n, n), BAD);
            r.is("n " + n, r.x.tape(0, 0, n), n > 60 ? BAD : SIZE);
        }
        r.is("TAPE 6", r.x.tape(6, 5, 61), NONE);
        r.is("sort 5", r.x.tape(0, 5, 61), BAD);
        r.is("sort 5, n -1", r.x.tape(0, 5, -1), BAD);
        r.is("n 61", r.x.tape(0, 4, 61), BAD);
        r.is("n -1", r.x.tape(0, 4, -1), SIZE);
        r.is("TAPE 6 to nothing", r.x.tape(6, -1, 0), NONE);
        r.end();
        for (int n : OUTSIDE) {
            GriefCranes x = some();
            due.is("30: tape: nothing, n does not matter", x.tape(0, -1, n), 1);
            due.is("30: tape: nothing again", x.tape(0, -1, n), 1);
            due.is("32: read: nothing is there", x.read(0, 1), Long.MIN_VALUE);
        }
    }

    private static void items() {
        Refusals r = new Refusals("31: item", some());
        for (int n : OUTSIDE) {
            r.is("TAPE " + n, r.x.item(n, 0, 1), NONE);
            r.is("both " + n, r.x.item(n, n, 1), NONE);
            r.is("nothing, place " + n, r.x.item(5, n, 1), NOTHING);
            r.is("place " + n, r.x.item(0, n, 1), PLACE);
            due.is("32: read: TAPE " + n, r.x.read(n, 0), Long.MIN_VALUE);
            due.is("32: read: place " + n, r.x.read(0, n), Long.MIN_VALUE);
            due.is("32: read: nothing, place " + n, r.x.read(5, n), Long.MIN_VALUE);
        }
        r.is("TAPE 6", r.x.item(6, 9, 1), NONE);
        r.is("nothing", r.x.item(3, 0, 1), NOTHING);
        for (int i = 4; i <= 60; i++) r.is("place " + i, r.x.item(0, i, 1), PLACE);
        for (int i = 4; i <= 60; i++) due.is("32: read: place " + i, r.x.read(0, i), Long.MIN_VALUE);
        r.end();
    }

    private static void shifts() {
        Refusals r = new Refusals("33: shift", some());
        for (int n : OUTSIDE) {
            r.is("TAPE " + n, r.x.shift(n, 0, 0, 0, 1), NONE);
            r.is("to TAPE " + n, r.x.shift(0, 0, n, 0, 1), NONE);
            r.is("nothing, to TAPE " + n, r.x.shift(5, n, n, n, n), NONE);
            r.is("from nothing, " + n, r.x.shift(5, n, 0, n, n), NOTHING);
            r.is("to nothing, " + n, r.x.shift(0, n, 5, n, n), NOTHING);
            r.is("unlike sorts, " + n, r.x.shift(0, n, 1, n, n), CAST);
            r.is("i " + n, r.x.shift(0, n, 2, 0, 1), PLACE);
            r.is("j " + n, r.x.shift(0, 0, 2, n, 1), PLACE);
            r.is("n " + n, r.x.shift(0, 0, 2, 0, n), PLACE);
            r.is("i " + n + ", none", r.x.shift(0, n, 2, 0, 0), PLACE);
            r.is("j " + n + ", none", r.x.shift(0, 0, 2, n, 0), PLACE);
            r.is("all " + n, r.x.shift(0, n, 2, n, n), PLACE);
        }
        r.is("beyond the first's end", r.x.shift(0, 3, 2, 0, 2), PLACE);
        r.is("beyond the other's end", r.x.shift(0, 0, 2, 1, 2), PLACE);
        r.is("behind the first's end, none", r.x.shift(0, 5, 2, 0, 0), PLACE);
        r.is("behind the other's end, none", r.x.shift(0, 0, 2, 3, 0), PLACE);
        r.is("at both ends, none", r.x.shift(0, 4, 2, 2, 0), 0);
        r.is("the same place", r.x.shift(0, 0, 0, 0, 4), 4);
        r.end();
        due.is("33: shift: up to both ends", r.x.shift(0, 1, 2, 0, 2), 2);
        due.is("33: shift: it came", r.x.read(2, 0), 10);
    }
}
