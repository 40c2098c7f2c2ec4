/** Promises 26 to 29: ACTS and their TRACE, KINDS, and how many there are. */
public final class ActsTest {
    private static final Due due = new Due("ActsTest");

    public static void main(String[] args) {
        everyAct();
        wrapping();
        refused();
        traces();
        taken();
        counting();
        due.end();
    }

    /** CRANES 0 .. 5 of KINDS 0 .. 5, or of KINDS 1 .. 6, with v 2 and its number. */
    private static GriefCranes of(int from) {
        GriefCranes x = new GriefCranes();
        for (int c = 0; c < 6; c++) x.crane(from + c, 2 + c);
        return x;
    }

    private static void act(GriefCranes x, int crane, int act, int v, int answer, int... bodies) {
        String what = "26: CRANE " + crane + ", act " + act + " with " + v;
        due.is(what, x.act(crane, act, v), answer);
        due.is("29: bodies of " + what, x.count(7), bodies.length);
        for (int i = 0; i < bodies.length; i++) due.is("27: body " + i + " of " + what, x.trace(i), bodies[i]);
        due.is("27: no more of " + what, x.trace(bodies.length), -1);
    }

    private static void everyAct() {
        GriefCranes x = of(0);
        act(x, 0, 0, 5, 5, 10);
        act(x, 0, 1, 5, 3, 11, 10);
        act(x, 0, 2, 5, 6, 12, 11, 10);
        // JIB: number 1, v 3
        act(x, 1, 0, 5, 6, 10);
        act(x, 1, 1, 5, 3 ^ 6, 20, 11, 10);
        act(x, 1, 2, 5, (3 ^ 6) * 2, 12, 20, 11, 10);
        // OLD: number 2, v 4
        act(x, 2, 0, 5, 17, 30, 10);
        act(x, 2, 1, 5, 13, 11, 30, 10);
        act(x, 2, 2, 5, 26, 12, 11, 30, 10);
        // STEADY: number 3, v 5
        act(x, 3, 0, 5, 8, 10);
        act(x, 3, 1, 5, 3, 11, 10);
        act(x, 3, 2, 5, 6 + (1 + 3 - 5), 40, 12, 11, 10, 11, 10);
        // GIANT: number 4, v 6
        act(x, 4, 0, 5, -9, 50, 10);
        act(x, 4, 1, 5, (-10 - 6) ^ 6, 51, 20, 11, 50, 10);
        act(x, 4, 2, 5, ((-10 - 6) ^ 6) * 2, 12, 51, 20, 11, 50, 10);
        // RUSTY: number 5, v 7
        act(x, 5, 0, 5, 20, 30, 10);
        act(x, 5, 1, 5, 13, 11, 30, 10);
        act(x, 5, 2, 7, (6 + 5 - 7) * 2, 60, 12, 11, 30, 10);
        // TOLD: number 5, v 7
        GriefCranes y = of(1);
        int lifts1 = ((1 + 5) ^ 7) - 7 + 7;
        act(y, 5, 0, 5, 10 ^ 7, 71, 10);
        act(y, 5, 1, 5, (10 ^ 7) - 7 + 7, 70, 11, 71, 10, 10);
        act(y, 5, 2, 5, (10 ^ 7) * 2 + lifts1, 40, 12, 70, 11, 71, 10, 10, 70, 11, 71, 10, 10);
    }

    private static void wrapping() {
        GriefCranes x = of(0);
        due.is("26: x + i wraps", x.act(1, 0, Integer.MAX_VALUE), Integer.MIN_VALUE);
        due.is("26: - v wraps", x.act(0, 1, Integer.MIN_VALUE), Integer.MAX_VALUE - 1);
        due.is("26: * 2 wraps", x.act(0, 2, Integer.MAX_VALUE), -6);
        due.is("26: x * 3 wraps", x.act(2, 0, Integer.MAX_VALUE), Integer.MAX_VALUE - 2 + 2);
        due.is("26: - wraps", x.act(4, 0, Integer.MAX_VALUE - 3), Integer.MIN_VALUE);
        due.is("26: x + 1 wraps", x.act(4, 1, Integer.MAX_VALUE), (Integer.MAX_VALUE - 3 - 6) ^ 6);
        due.is("26: x - i wraps", x.act(5, 2, Integer.MIN_VALUE),
            ((Integer.MIN_VALUE - 5) * 3 + 5 - 7) * 2);
    }

    private static void refused() {
        GriefCranes x = of(0);
        int[][] rows = {{6, 0}, {-1, 0}, {0, 3}, {0, -1}, {Integer.MAX_VALUE, 1}, {1, Integer.MIN_VALUE}};
        for (int[] row : rows) {
            x.act(3, 2, 5);
            due.is("29: bodies ran", x.count(7), 6);
            due.is("26: no such", x.act(row[0], row[1], 9), 0);
            due.is("27: no TRACE then", x.trace(0), -1);
            due.is("29: none ran then", x.count(7), 0);
        }
    }

    private static void traces() {
        GriefCranes x = of(0);
        due.is("27: none yet", x.trace(0), -1);
        x.act(3, 2, 5);
        due.is("27: -1", x.trace(-1), -1);
        due.is("27: smallest", x.trace(Integer.MIN_VALUE), -1);
        due.is("27: largest", x.trace(Integer.MAX_VALUE), -1);
        due.is("27: 6", x.trace(6), -1);
        due.is("27: 5", x.trace(5), 10);
        due.is("27: 20", x.trace(20), -1);
        x.act(0, 0, 1);
        due.is("27: of the latest alone", x.trace(0), 10);
        due.is("27: and no more", x.trace(1), -1);
        x.act(3, 0, 1);
        due.is("29: one body", x.count(7), 1);
    }

    private static void taken() {
        boolean[][] under = new boolean[7][7];
        int[][] pairs = {{1, 0}, {2, 0}, {3, 0}, {4, 1}, {4, 0}, {5, 2}, {5, 0}, {6, 3}, {6, 0}};
        for (int k = 0; k < 7; k++) under[k][k] = true;
        for (int[] pair : pairs) under[pair[0]][pair[1]] = true;
        for (int kind = 0; kind < 7; kind++) {
            GriefCranes x = new GriefCranes();
            x.crane(kind, 0);
            for (int k = 0; k < 7; k++) {
                due.is("28: KIND " + kind + " for " + k, x.taken(0, k), under[kind][k] ? kind : -12);
            }
            due.is("28: k -1", x.taken(0, -1), -2);
            due.is("28: k 7", x.taken(0, 7), -2);
            due.is("28: BAD ahead of NOTHING", x.taken(1, 7), -2);
            due.is("28: no CRANE 1", x.taken(1, 0), -11);
            due.is("28: no CRANE -1", x.taken(-1, 0), -11);
        }
    }

    private static void counting() {
        GriefCranes x = new GriefCranes();
        for (int i = 0; i < 2; i++) x.crane(3, 9);
        for (int i = 0; i < 3; i++) x.thing(1, -1);
        Make.firm(x, "bear 1");
        for (int i = 0; i < 4; i++) x.see(0, 0, 0);
        for (int i = 0; i < 5; i++) x.plan(0, 0);
        for (int i = 0; i < 6; i++) x.book(0, 1);
        Make.type(x, "bear 12");
        x.act(0, 2, 0);
        int[] many = {2, 3, 1, 4, 5, 6, 7, 6};
        for (int what = 0; what < many.length; what++) due.is("29: count(" + what + ")", x.count(what), many[what]);
        due.is("29: -1", x.count(-1), -2);
        due.is("29: 8", x.count(8), -2);
        due.is("29: largest", x.count(Integer.MAX_VALUE), -2);
    }
}
