/** Runs of calls, drawn by number from a fixed row, on the class and on the Model: their answers are the same. */
public final class ModelTest {
    private static final Due due = new Due("ModelTest");
    private static final int RUNS = 1500;
    private static final int CALLS = 300;
    private static final String[] TESTS = {"p", "k", "v", "x", "g", "h"};
    private static final int[] EDGES = {Integer.MIN_VALUE, -10, -2, -1, 10, 11, 13, 61, 100, 128, Integer.MAX_VALUE};
    private static long seed = 20261118L;

    public static void main(String[] args) {
        for (int text = 0; text < 4000; text++) faults();
        for (int run = 0; run < RUNS && due.wrong() < 20; run++) run(run);
        due.end();
    }

    /** A number from 0 to below n, by a row that is the same each time. */
    private static int draw(int n) {
        seed = seed * 6364136223846793005L + 1442695040888963407L;
        return (int) Math.floorMod(seed >>> 33, (long) n);
    }

    /** Mostly from 0 to n, now and then beyond. */
    private static int near(int n) {
        int d = draw(40);
        return d == 0 ? EDGES[draw(EDGES.length)] : d == 1 ? -1 : d == 2 ? n + 1 : draw(n + 1);
    }

    private static String test() {
        int which = draw(6);
        int[] most = {5, 6, 9, 7, 9, 9};
        return TESTS[which] + "<=>".charAt(draw(3)) + draw(most[which] + 1);
    }

    private static String expression(int within) {
        int d = draw(10);
        if (d < 3 && within < 4) return "(" + expression(within + 1) + ")" + (draw(3) == 0 ? "&" + test() : "");
        if (d < 5 && within < 4) return "!" + (draw(2) == 0 ? test() : "(" + expression(Math.min(4, within + 2)) + ")");
        if (d < 7) return test() + "&" + expression(within);
        if (d < 8) return test() + "|" + expression(within);
        return test();
    }

    private static String clause() {
        int d = draw(8);
        if (d == 0) return "bear " + draw(50);
        if (d == 1) return "hang " + draw(6);
        return (d < 5 ? "strong " : "weak ") + draw(30) + " " + expression(0);
    }

    private static String firm() {
        StringBuilder all = new StringBuilder(clause());
        for (int more = draw(8); more > 0; more--) {
            String next = clause();
            if (all.length() + 1 + next.length() > 100) break;
            all.append(';').append(next);
        }
        while (all.length() > 100) all.setLength(0);
        return all.length() == 0 ? "bear 9" : all.toString();
    }

    /** A firm in which one sign, or none, is otherwise, or which ends early. */
    private static String nearlyFirm() {
        StringBuilder text = new StringBuilder(firm());
        String signs = "strongweakbearhangpkvxgh<=>&|!();  0123456789Az~";
        int at = draw(text.length());
        switch (draw(5)) {
            case 0: text.setCharAt(at, signs.charAt(draw(signs.length()))); break;
            case 1: text.insert(at, signs.charAt(draw(signs.length()))); break;
            case 2: text.deleteCharAt(at); break;
            case 3: text.setLength(at); break;
            default: break;
        }
        if (text.length() > 100) text.setLength(100);
        return text.toString();
    }

    private static void faults() {
        String text = nearlyFirm();
        int fault = Model.fault(text);
        due.is("firm() of '" + text + "'", Make.firm(new GriefCranes(), text), fault < 0 ? 0 : -10 - fault);
    }

    private static void feed(GriefCranes x, Model m, String text, String run) {
        for (int i = 0; i < text.length(); i++) {
            due.is(run + "feed", x.feed(text.charAt(i)), m.feed(text.charAt(i)));
        }
        due.is(run + "firm() of '" + text + "'", x.firm(), m.firm());
    }

    private static void run(int number) {
        GriefCranes x = new GriefCranes();
        Model m = new Model();
        String run = "run " + number + ": ";
        if (draw(3) > 0) feed(x, m, firm(), run);
        int cranes = draw(7);
        for (int c = 0; c < cranes; c++) {
            int kind = draw(7);
            int v = draw(10);
            due.is(run + "crane", x.crane(kind, v), m.crane(kind, v));
        }
        int things = draw(9);
        for (int t = 0; t < things; t++) {
            int grief = draw(4) == 0 ? draw(100) : draw(60);
            int crane = draw(cranes + 1) - 1;
            due.is(run + "thing", x.thing(grief, crane), m.thing(grief, crane));
        }
        for (int k = 0; k < 4 && draw(4) > 0; k++) {
            int n = draw(10);
            due.is(run + "wind", x.wind(k, n), m.wind(k, n));
        }
        for (int call = x.count(6); call < CALLS && due.wrong() < 20; call++) {
            if (draw(60) == 0) feed(x, m, nearlyFirm(), run);
            int which = draw(33);
            if (which < 16) first(which, x, m, run + call + ": ");
            else second(which, x, m, run + call + ": ");
        }
    }

    private static void first(int which, GriefCranes x, Model m, String run) {
        int a = near(7);
        int b = near(9);
        String call = run + "call " + which + " with " + a + ", " + b;
        switch (which) {
            case 0: due.is(call, x.crane(a, b), m.crane(a, b)); break;
            case 1: {
                int crane = near(5);
                int what = draw(2) == 0 ? near(3) : 10 + near(8);
                due.is(call + " of " + crane + ", " + what, x.of(crane, what), m.of(crane, what));
                break;
            }
            case 2: {
                int grief = near(99);
                int crane = near(5);
                due.is(call + " thing " + grief + ", " + crane, x.thing(grief, crane), m.thing(grief, crane));
                break;
            }
            case 3: due.is(call, x.load(a, b), m.load(a, b)); break;
            case 4: {
                int crane = draw(4) == 0 ? -1 : near(5);
                due.is(call + " send to " + crane, x.send(a, crane), m.send(a, crane));
                break;
            }
            case 5: {
                int k = near(3);
                due.is(call + " wind " + k, x.wind(k, b), m.wind(k, b));
                break;
            }
            case 6: {
                int crane = near(5);
                int part = near(3);
                due.is(call + " row " + crane + ", " + part, x.row(crane, part, b), m.row(crane, part, b));
                break;
            }
            case 7: {
                int sign = near(127);
                due.is(call + " feed " + sign, x.feed(sign), m.feed(sign));
                break;
            }
            case 8: {
                int what = near(14);
                due.is(call + " told " + what, x.told(what), m.told(what));
                break;
            }
            case 9: {
                int n = draw(3) > 0 ? near(4) : near(60);
                due.is(call + " pass " + n, x.pass(n), m.pass(n));
                break;
            }
            case 10: {
                int n = draw(2) == 0 ? near(8) : near(60);
                int what = draw(3) == 0 ? near(2) : 10 + 10 * draw(2) + near(8);
                due.is(call + " on " + n + ", " + what, x.on(n, what), m.on(n, what));
                break;
            }
            case 11: {
                int n = near(20);
                int what = near(1);
                due.is(call + " best " + n + ", " + what, x.best(n, what), m.best(n, what));
                break;
            }
            case 12: {
                int n = near(12);
                int state = near(3);
                if (draw(5) == 0) a = -1;
                due.is(call + " see " + n + ", " + state, x.see(a, n, state), m.see(a, n, state));
                break;
            }
            case 13: {
                int crane = near(5);
                int what = near(1);
                due.is(call + " can " + crane + ", " + what, x.can(crane, what), m.can(crane, what));
                break;
            }
            case 14: {
                int n = near(20);
                int part = near(1);
                due.is(call + " odds " + n + ", " + part, x.odds(a, n, part), m.odds(a, n, part));
                break;
            }
            default: {
                int part = near(1);
                due.is(call + " mean " + part, x.mean(part), m.mean(part));
                break;
            }
        }
    }

    private static void second(int which, GriefCranes x, Model m, String run) {
        int a = near(5);
        int b = near(6);
        int c = near(12);
        String call = run + "call " + which + " with " + a + ", " + b + ", " + c;
        switch (which) {
            case 16: {
                int what = draw(8) == 0 ? -1 : draw(2) == 0 ? 0 : near(3);
                due.is(call + " plan " + what, x.plan(what, b), m.plan(what, b));
                break;
            }
            case 17: {
                int what = near(1);
                due.is(call + " ends " + what, x.ends(what), m.ends(what));
                break;
            }
            case 18: {
                int thing = near(7);
                int grief = draw(2) == 0 ? x.load(thing, 0) : near(99);
                due.is(call + " book " + thing + ", " + grief, x.book(thing, grief), m.book(thing, grief));
                break;
            }
            case 19: due.is(call + " looked", x.looked(), m.looked()); break;
            case 20: due.is(call + " judge", x.judge(a, b), m.judge(a, b)); break;
            case 21: judgeOfAlike(x, m, a, draw(4), call); break;
            case 22: if (draw(3) == 0) due.is(call + " image", x.image(), m.image()); break;
            case 23: if (draw(3) == 0) due.is(call + " undo", x.undo(), m.undo()); break;
            case 24: {
                int act = near(2);
                int v = draw(5) == 0 ? (int) (seed >>> 31) : c;
                due.is(call + " act " + act + ", " + v, x.act(a, act, v), m.act(a, act, v));
                break;
            }
            case 25: due.is(call + " trace", x.trace(c), m.trace(c)); break;
            case 26: due.is(call + " taken", x.taken(a, b), m.taken(a, b)); break;
            case 27: due.is(call + " count", x.count(c - 2), m.count(c - 2)); break;
            case 28: {
                int sort = near(4);
                due.is(call + " tape " + sort, x.tape(a, sort, c), m.tape(a, sort, c));
                break;
            }
            case 29: {
                long v = draw(2) == 0 ? c : seed >> draw(64);
                due.is(call + " item " + v, x.item(a, b, v), m.item(a, b, v));
                break;
            }
            case 30: due.is(call + " read", x.read(a, b), m.read(a, b)); break;
            case 31: {
                int i = near(6);
                int n = near(5);
                due.is(call + " shift " + i + ", " + n, x.shift(a, i, a, b, n), m.shift(a, i, a, b, n));
                break;
            }
            default: {
                int i = near(6);
                int n = near(5);
                int other = near(5);
                due.is(call + " shift " + i + ", " + n, x.shift(a, i, other, b, n), m.shift(a, i, other, b, n));
                break;
            }
        }
    }

    /** A row of bytes that has the GRIEFS from a place on, but now and then one. */
    private static void judgeOfAlike(GriefCranes x, Model m, int tape, int from, String call) {
        due.is(call + " tape", x.tape(tape, 0, 12), m.tape(tape, 0, 12));
        for (int t = 0; t < 8; t++) {
            int v = draw(9) == 0 ? draw(100) : x.load(t, 0);
            due.is(call + " item", x.item(tape, from + t, v), m.item(tape, from + t, v));
        }
        due.is(call + " judge of alike", x.judge(tape, from), m.judge(tape, from));
    }
}
