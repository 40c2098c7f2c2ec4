/** Promises 23 and 30 to 33: JUDGING by a row of bytes, and TAPES. */
public final class TapesTest {
    private static final Due due = new Due("TapesTest");

    public static void main(String[] args) {
        judgingWithoutThings();
        judging();
        judgingPlaces();
        becoming();
        items();
        narrowing();
        reading();
        shifting();
        shiftingOverItself();
        shiftingRefused();
        due.end();
    }

    private static GriefCranes row(long... items) {
        GriefCranes x = new GriefCranes();
        x.tape(0, 0, items.length);
        for (int i = 0; i < items.length; i++) x.item(0, i, items[i]);
        return x;
    }

    private static void judgingWithoutThings() {
        GriefCranes x = new GriefCranes();
        due.is("23: TAPE 6", x.judge(6, 0), -1);
        due.is("23: TAPE -1", x.judge(-1, 0), -1);
        for (int i : new int[] {0, -1, 99, Integer.MIN_VALUE, Integer.MAX_VALUE}) {
            due.is("23: no THINGS, nothing", x.judge(0, i), -5);
            due.is("23: no THINGS, a row", row(1, 2).judge(0, i), -5);
        }
        for (int sort = 1; sort <= 4; sort++) {
            x.tape(sort, sort, 3);
            due.is("23: no THINGS, another sort", x.judge(sort, 0), -12);
            due.is("23: another sort, place -1", x.judge(sort, -1), -12);
        }
    }

    private static void judging() {
        GriefCranes x = row(7, 50, 0, 99, 50, 0, 98, -1);
        x.thing(50, -1);
        x.thing(0, -1);
        x.thing(99, -1);
        due.is("23: all is so", x.judge(0, 1), -5);
        due.is("23: the first is otherwise", x.judge(0, 0), 0);
        due.is("23: the third is otherwise", x.judge(0, 4), 2);
        due.is("23: the first, near the end", x.judge(0, 5), 0);
        due.is("23: otherwise by sign", row(178).judge(0, 0), -5);
        GriefCranes y = row(50);
        y.thing(50, -1);
        due.is("23: one is so", y.judge(0, 0), -5);
        y.tape(1, 1, 9);
        due.is("23: shorts", y.judge(1, 0), -12);
        y.tape(5, 0, 1);
        due.is("23: the last TAPE", y.judge(5, 0), 0);
        GriefCranes z = row(256 + 50, -206);
        z.thing(50, -1);
        z.thing(50, -1);
        due.is("23: by the lowest bits", z.judge(0, 0), -5);
    }

    private static void judgingPlaces() {
        GriefCranes x = row(50, 0);
        x.thing(50, -1);
        x.thing(0, -1);
        x.thing(99, -1);
        due.is("23: the row ends behind two", x.judge(0, 0), 102);
        due.is("23: it ends at once", x.judge(0, 2), 100);
        due.is("23: beyond its end", x.judge(0, 3), 100);
        due.is("23: far beyond", x.judge(0, Integer.MAX_VALUE), 100);
        due.is("23: below 0", x.judge(0, -1), 100);
        due.is("23: far below 0", x.judge(0, Integer.MIN_VALUE), 100);
        due.is("23: nothing", x.judge(1, 0), 100);
        due.is("23: nothing, below 0", x.judge(1, -3), 100);
        x.tape(1, 0, 0);
        due.is("23: a row of none", x.judge(1, 0), 100);
        due.is("23: otherwise ahead of the end", x.judge(0, 1), 0);
        GriefCranes y = row(9, 50);
        y.thing(50, -1);
        y.thing(1, -1);
        due.is("23: one was looked at", y.judge(0, 1), 101);
    }

    private static void becoming() {
        GriefCranes x = new GriefCranes();
        due.is("30: TAPE 6", x.tape(6, 0, 0), -1);
        due.is("30: TAPE -1", x.tape(-1, 0, 0), -1);
        due.is("30: TAPE 6, nothing", x.tape(6, -1, 0), -1);
        due.is("30: sort 5", x.tape(0, 5, 0), -2);
        due.is("30: sort -2", x.tape(0, -2, 0), -2);
        due.is("30: n 61", x.tape(0, 0, 61), -2);
        due.is("30: n largest", x.tape(0, 0, Integer.MAX_VALUE), -2);
        due.is("30: n -1", x.tape(0, 0, -1), -14);
        due.is("30: n smallest", x.tape(0, 0, Integer.MIN_VALUE), -14);
        due.is("30: NONE ahead of BAD", x.tape(6, 5, 61), -1);
        due.is("30: BAD ahead of SIZE", x.tape(0, 5, -1), -2);
        due.is("30: nothing came", x.item(0, 0, 0), -11);
        for (int tape = 0; tape < 6; tape++) due.is("30: a row", x.tape(tape, tape % 5, 60), 1);
        due.is("30: the last item", x.item(5, 59, 7), 1);
        due.is("30: the first item", x.item(5, 0, 7), 1);
        due.is("30: a row of none", x.tape(5, 3, 0), 1);
        due.is("30: it has no place", x.item(5, 0, 7), -13);
        x.tape(5, 3, 60);
        for (int i = 0; i < 60; i++) due.is("30: all 0", x.read(5, i), 0);
        due.is("30: refused", x.tape(5, 3, -1), -14);
        due.is("30: it stays", x.read(5, 59), 0);
        for (int n : new int[] {0, 61, -1, Integer.MIN_VALUE, Integer.MAX_VALUE}) {
            x.tape(5, 0, 5);
            due.is("30: nothing, n does not matter", x.tape(5, -1, n), 1);
            due.is("30: nothing is there", x.item(5, 0, 0), -11);
        }
    }

    private static void items() {
        GriefCranes x = new GriefCranes();
        x.tape(0, 2, 3);
        due.is("31: TAPE 6", x.item(6, 0, 0), -1);
        due.is("31: TAPE -1", x.item(-1, 0, 0), -1);
        due.is("31: nothing", x.item(1, 0, 0), -11);
        due.is("31: nothing, no place", x.item(1, -1, 0), -11);
        due.is("31: place 3", x.item(0, 3, 0), -13);
        due.is("31: place -1", x.item(0, -1, 0), -13);
        due.is("31: place smallest", x.item(0, Integer.MIN_VALUE, 0), -13);
        due.is("31: place 0", x.item(0, 0, 5), 1);
        due.is("31: place 2", x.item(0, 2, 6), 1);
        due.is("31: first", x.read(0, 0), 5);
        due.is("31: between", x.read(0, 1), 0);
        due.is("31: last", x.read(0, 2), 6);
    }

    private static void narrowing() {
        long[][] rows = {
            {0, 127, 127}, {0, 128, -128}, {0, -129, 127}, {0, 255, -1}, {0, 256, 0}, {0, Long.MIN_VALUE, 0},
            {1, 32767, 32767}, {1, 32768, -32768}, {1, -32769, 32767}, {1, 65536, 0},
            {2, 2147483647L, 2147483647L}, {2, 2147483648L, -2147483648L}, {2, 1L << 32, 0}, {2, -2147483649L, 2147483647L},
            {3, Long.MAX_VALUE, Long.MAX_VALUE}, {3, Long.MIN_VALUE, Long.MIN_VALUE}, {3, 1L << 32, 1L << 32},
            {4, 0, 0}, {4, 1, 1}, {4, 2, 1}, {4, -1, 1}, {4, 1L << 32, 1}, {4, Long.MIN_VALUE, 1}};
        for (long[] row : rows) {
            GriefCranes x = new GriefCranes();
            x.tape(0, (int) row[0], 1);
            due.is("31: sort " + row[0] + " becomes " + row[1], x.item(0, 0, row[1]), 1);
            due.is("31: sort " + row[0] + " of " + row[1], x.read(0, 0), row[2]);
            x.item(0, 0, 0);
            due.is("31: 0 again", x.read(0, 0), 0);
        }
    }

    private static void reading() {
        GriefCranes x = new GriefCranes();
        x.tape(0, 0, 2);
        for (int[] row : new int[][] {{-1, 0}, {6, 0}, {1, 0}, {0, -1}, {0, 2}, {0, Integer.MAX_VALUE}, {1, -1}}) {
            due.is("32: TAPE " + row[0] + ", place " + row[1], x.read(row[0], row[1]), Long.MIN_VALUE);
        }
        due.is("32: there", x.read(0, 1), 0);
        x.item(0, 1, 9);
        x.tape(0, 0, 1);
        due.is("32: no more there", x.read(0, 1), Long.MIN_VALUE);
        x.tape(0, -1, 1);
        due.is("32: nothing there", x.read(0, 0), Long.MIN_VALUE);
    }

    private static void holds(String what, GriefCranes x, int tape, long... items) {
        for (int i = 0; i < items.length; i++) due.is(what + ", item " + i, x.read(tape, i), items[i]);
    }

    private static void shifting() {
        GriefCranes x = row(1, 2, 3, 4, 5);
        x.tape(1, 0, 3);
        due.is("33: n", x.shift(0, 1, 1, 0, 2), 2);
        holds("33: come", x, 1, 2, 3, 0);
        holds("33: stay", x, 0, 1, 2, 3, 4, 5);
        x.tape(5, 0, 1);
        due.is("33: to the last TAPE", x.shift(0, 3, 5, 0, 1), 1);
        due.is("33: from the last TAPE", x.shift(5, 0, 1, 2, 1), 1);
        holds("33: there and back", x, 1, 2, 3, 4);
        due.is("33: none", x.shift(0, 5, 1, 3, 0), 0);
        due.is("33: to the end", x.shift(0, 2, 1, 0, 3), 3);
        holds("33: all three", x, 1, 3, 4, 5);
        for (int sort = 0; sort <= 4; sort++) {
            x.tape(2, sort, 2);
            x.tape(3, sort, 2);
            x.item(2, 0, 1);
            due.is("33: of sort " + sort, x.shift(2, 0, 3, 1, 1), 1);
            holds("33: sort " + sort, x, 3, 0, 1);
        }
    }

    private static void shiftingOverItself() {
        GriefCranes x = row(1, 2, 3, 4, 5);
        due.is("33: upward", x.shift(0, 0, 0, 1, 4), 4);
        holds("33: as they all were before", x, 0, 1, 1, 2, 3, 4);
        due.is("33: downward", x.shift(0, 2, 0, 0, 3), 3);
        holds("33: as they all were before, downward", x, 0, 2, 3, 4, 3, 4);
        due.is("33: in place", x.shift(0, 0, 0, 0, 5), 5);
        holds("33: in place", x, 0, 2, 3, 4, 3, 4);
    }

    private static void shiftingRefused() {
        GriefCranes x = row(1, 2, 3);
        x.tape(1, 0, 2);
        x.tape(2, 1, 2);
        due.is("33: TAPE 6", x.shift(6, 0, 0, 0, 0), -1);
        due.is("33: TAPE -1", x.shift(-1, 0, 0, 0, 0), -1);
        due.is("33: other 6", x.shift(0, 0, 6, 0, 0), -1);
        due.is("33: other -1", x.shift(0, 0, -1, 0, 0), -1);
        due.is("33: nothing from", x.shift(3, 0, 0, 0, 0), -11);
        due.is("33: nothing to", x.shift(0, 0, 3, 0, 0), -11);
        due.is("33: NONE ahead of NOTHING", x.shift(3, 0, 6, 0, 0), -1);
        due.is("33: unlike sorts", x.shift(0, 0, 2, 0, 0), -12);
        due.is("33: CAST ahead of PLACE", x.shift(0, -1, 2, 0, 0), -12);
        due.is("33: NOTHING ahead of PLACE", x.shift(0, -1, 3, 0, 0), -11);
        int big = Integer.MAX_VALUE;
        int[][] places = {{-1, 0, 1}, {0, -1, 1}, {0, 0, -1}, {2, 0, 2}, {0, 1, 2}, {4, 0, 0}, {0, 3, 0}, {0, 0, 3}, {0, 0, 4},
            {big, 0, 1}, {0, big, 1}, {0, 0, big}, {big, 0, big}, {1, 0, big}, {0, 1, big}, {Integer.MIN_VALUE, 0, 0},
            {0, 0, Integer.MIN_VALUE}, {big, 0, 0}};
        for (int[] p : places) {
            due.is("33: places " + p[0] + " " + p[1] + " " + p[2], x.shift(0, p[0], 1, p[1], p[2]), -13);
        }
        holds("33: nothing came", x, 1, 0, 0);
        due.is("33: n 0 at the ends", x.shift(0, 3, 1, 2, 0), 0);
        due.is("33: n 0 beyond the end", x.shift(0, 3, 1, 3, 0), -13);
    }
}
