/** Promises 1 to 8: a new object, CRANES, THINGS, what is sent for what, WIND, ROWS. */
public final class CranesTest {
    private static final Due due = new Due("CranesTest");

    public static void main(String[] args) {
        newObject();
        cranesCome();
        whatACraneIs();
        powers();
        powersBelowZero();
        powerOfARustyOne();
        powerGoesByTheHour();
        thingsCome();
        whatAThingIs();
        sending();
        winds();
        rows();
        due.end();
    }

    private static void newObject() {
        GriefCranes x = new GriefCranes();
        for (int what = 0; what <= 7; what++) due.is("1: count(" + what + ")", x.count(what), 0);
        due.is("1: HOUR", x.told(0), 0);
        due.is("1: BEAR without a FIRM", x.told(1), 12);
        due.is("1: HANG without a FIRM", x.told(2), 2);
        for (int what = 3; what <= 6; what++) due.is("1: told(" + what + ")", x.told(what), 0);
        for (int k = 0; k < 4; k++) due.is("1: WIND", x.told(10 + k), 2);
        for (int t = 0; t < 6; t++) due.is("1: TAPES hold nothing", x.item(t, 0, 1), -11);
        due.is("1: no IMAGE", x.undo(), -3);
        due.is("1: no TRACE", x.trace(0), -1);
    }

    private static void cranesCome() {
        GriefCranes x = new GriefCranes();
        due.is("2: kind -1", x.crane(-1, 0), -1);
        due.is("2: kind 7", x.crane(7, 0), -1);
        due.is("2: kind smallest", x.crane(Integer.MIN_VALUE, 0), -1);
        due.is("2: kind largest", x.crane(Integer.MAX_VALUE, 0), -1);
        due.is("2: v -1", x.crane(0, -1), -2);
        due.is("2: v 10", x.crane(0, 10), -2);
        due.is("2: NONE ahead of BAD", x.crane(7, 10), -1);
        due.is("2: nothing came", x.count(0), 0);
        for (int c = 0; c < 6; c++) due.is("2: number", x.crane(c + 1, c == 5 ? 9 : 0), c);
        due.is("2: FULL", x.crane(0, 0), -4);
        due.is("2: NONE ahead of FULL", x.crane(7, 0), -1);
        due.is("2: BAD ahead of FULL", x.crane(0, 10), -2);
        due.is("2: six", x.count(0), 6);
    }

    private static void whatACraneIs() {
        GriefCranes x = new GriefCranes();
        due.is("3: no CRANE", x.of(0, 0), -10001);
        x.crane(4, 9);
        x.crane(6, 0);
        x.thing(20, 0);
        due.is("3: KIND", x.of(0, 0), 4);
        due.is("3: KIND of the second", x.of(1, 0), 6);
        due.is("3: v", x.of(0, 1), 9);
        due.is("3: v of the second", x.of(1, 1), 0);
        due.is("3: LIFTS", x.of(0, 2), 0);
        due.is("3: none HUNG", x.of(0, 3), -5);
        due.is("3: what 4", x.of(0, 4), -10001);
        due.is("3: what 9", x.of(0, 9), -10001);
        due.is("3: what -1", x.of(0, -1), -10001);
        due.is("3: no THING 1", x.of(0, 11), -10001);
        due.is("3: smallest what", x.of(0, Integer.MIN_VALUE), -10001);
        due.is("3: largest what", x.of(0, Integer.MAX_VALUE), -10001);
        due.is("3: CRANE -1", x.of(-1, 0), -10001);
        due.is("3: CRANE 2", x.of(2, 0), -10001);
        x.pass(1);
        due.is("3: HUNG by it", x.of(0, 3), 0);
        due.is("3: HUNG by the other", x.of(1, 3), -5);
        x.pass(2);
        due.is("3: LIFTS once LAID", x.of(0, 2), 1);
        due.is("3: LIFTS of the other", x.of(1, 2), 0);
        due.is("3: HUNG no more", x.of(0, 3), -5);
    }

    private static void powers() {
        GriefCranes x = new GriefCranes();
        x.crane(0, 7);
        x.crane(1, 5);
        x.crane(2, 9);
        x.crane(3, 2);
        x.crane(4, 3);
        x.crane(5, 9);
        x.thing(49, -1);
        x.thing(50, -1);
        due.is("3: POWER of a CRANE", x.of(0, 10), 30);
        due.is("3: POWER of a JIB", x.of(1, 10), 35);
        due.is("3: POWER of an OLD", x.of(2, 10), 25);
        due.is("3: POWER of a STEADY", x.of(3, 10), 30);
        due.is("3: POWER of a GIANT", x.of(4, 10), 33);
        due.is("3: POWER of a GIANT, GRIEF 50", x.of(4, 11), 66);
        due.is("3: POWER of a JIB, GRIEF 50", x.of(1, 11), 35);
        due.is("3: POWER of a RUSTY", x.of(5, 10), 25);
        x.wind(0, 3);
        due.is("3: POWER of a STEADY, WIND above v", x.of(3, 10), 0);
        due.is("3: POWER of an OLD, WIND above v", x.of(2, 10), 25);
        x.wind(0, 9);
        due.is("3: POWER of a JIB, WIND above v", x.of(1, 10), 35);

        GriefCranes y = new GriefCranes();
        y.crane(6, 2);
        for (int t = 0; t < 8; t++) y.thing(1, 0);
        for (int part = 0; part < 4; part++) y.row(0, part, part + 5);
        for (int t = 0; t < 8; t++) due.is("3: POWER of a TOLD", y.of(0, 10 + t), 30 + t % 4 + 5);
        y.wind(0, 3);
        for (int t = 0; t < 8; t++) due.is("3: POWER of a TOLD, WIND above v", y.of(0, 10 + t), t % 4 + 5);
    }

    private static void powersBelowZero() {
        GriefCranes x = Make.with("weak 99 k<9");
        x.crane(0, 1);
        x.crane(1, 5);
        x.crane(2, 1);
        x.crane(3, 1);
        x.crane(4, 3);
        x.crane(5, 1);
        x.thing(50, -1);
        due.is("3: CRANE below 0", x.of(0, 10), -69);
        due.is("3: JIB below 0", x.of(1, 10), -64);
        due.is("3: the half is cut toward 0", x.of(2, 10), -24);
        due.is("3: STEADY, WIND above v", x.of(3, 10), 0);
        due.is("3: GIANT below 0", x.of(4, 10), -132);
        due.is("3: RUSTY below 0", x.of(5, 10), -24);
        x.wind(0, 1);
        due.is("3: STEADY below 0", x.of(3, 10), -69);
        GriefCranes y = Make.with("strong 1 k<9");
        y.crane(2, 0);
        y.thing(0, -1);
        due.is("3: the half of 31", y.of(0, 10), 25);
    }

    private static void powerOfARustyOne() {
        GriefCranes x = Make.with("hang 0");
        x.crane(5, 0);
        for (int t = 0; t < 8; t++) x.thing(5, 0);
        for (int lifts = 0; lifts <= 8; lifts++) {
            due.is("3: LIFTS of a RUSTY", x.of(0, 2), lifts);
            due.is("3: POWER of a RUSTY, less LIFTS", x.of(0, 17), 25 - lifts);
            x.pass(2);
        }
    }

    private static void powerGoesByTheHour() {
        GriefCranes x = Make.with("strong 7 h=9");
        x.crane(3, 4);
        x.thing(99, -1);
        Make.winds(x, 4, 5, 3, 9);
        int[] powers = {30, 0, 30, 0, 30, 0, 30, 0, 30, 0, 30, 0};
        for (int hour = 0; hour < powers.length; hour++) {
            due.is("3: POWER of a STEADY in HOUR " + hour, x.of(0, 10), powers[hour]);
            x.pass(1);
        }
        GriefCranes y = Make.with("strong 7 h=9");
        y.crane(0, 4);
        y.thing(99, -1);
        for (int hour = 0; hour < 30; hour++) {
            due.is("3: POWER in HOUR " + hour, y.of(0, 10), hour % 10 == 9 ? 37 : 30);
            y.pass(1);
        }
    }

    private static void thingsCome() {
        GriefCranes x = new GriefCranes();
        due.is("4: no CRANE 0", x.thing(1, 0), -1);
        due.is("4: CRANE -2", x.thing(1, -2), -1);
        due.is("4: NONE ahead of BAD", x.thing(100, 0), -1);
        due.is("4: GRIEF -1", x.thing(-1, -1), -2);
        due.is("4: GRIEF 100", x.thing(100, -1), -2);
        due.is("4: nothing came", x.count(1), 0);
        x.crane(0, 0);
        due.is("4: CRANE 1", x.thing(1, 1), -1);
        due.is("4: GRIEF 0", x.thing(0, -1), 0);
        due.is("4: GRIEF 99", x.thing(99, 0), 1);
        for (int t = 2; t < 8; t++) due.is("4: number", x.thing(t, 0), t);
        due.is("4: FULL", x.thing(1, 0), -4);
        due.is("4: BAD ahead of FULL", x.thing(100, 0), -2);
        due.is("4: NONE ahead of FULL", x.thing(1, 5), -1);
        due.is("4: eight", x.count(1), 8);
        due.is("4: all STANDING", x.told(3), 255);
    }

    private static void whatAThingIs() {
        GriefCranes x = new GriefCranes();
        due.is("5: no THING", x.load(0, 0), -1);
        x.crane(0, 0);
        x.thing(20, -1);
        x.thing(30, 0);
        due.is("5: GRIEF", x.load(0, 0), 20);
        due.is("5: GRIEF of the second", x.load(1, 0), 30);
        due.is("5: no CRANE", x.load(0, 1), -5);
        due.is("5: its CRANE", x.load(1, 1), 0);
        due.is("5: what 9", x.load(0, 9), -1);
        due.is("5: what -1", x.load(0, -1), -1);
        due.is("5: THING -1", x.load(-1, 0), -1);
        due.is("5: THING 2", x.load(2, 0), -1);
        due.is("5: largest THING", x.load(Integer.MAX_VALUE, 0), -1);
        int[][] rows = {{0, 0, 0}, {1, 0, 0}, {1, 2, 1}, {2, 4, 2}, {2, 4, 2}};
        for (int[] row : rows) {
            due.is("5: STATE", x.load(1, 2), row[0]);
            due.is("5: SWING", x.load(1, 3), row[1]);
            due.is("5: TIME", x.load(1, 4), row[2]);
            x.pass(1);
        }
        due.is("5: its CRANE, once LAID", x.load(1, 1), 0);
        due.is("5: STATE of what none lifts", x.load(0, 2), 0);
    }

    private static void sending() {
        GriefCranes x = new GriefCranes();
        x.crane(0, 0);
        x.crane(1, 1);
        x.thing(20, -1);
        due.is("6: THING 1", x.send(1, 0), -1);
        due.is("6: THING -1", x.send(-1, 0), -1);
        due.is("6: CRANE 2", x.send(0, 2), -1);
        due.is("6: CRANE -2", x.send(0, -2), -1);
        due.is("6: still none", x.load(0, 1), -5);
        due.is("6: it was none", x.send(0, 1), -5);
        due.is("6: it was 1", x.send(0, 0), 1);
        due.is("6: it was 0", x.send(0, -1), 0);
        due.is("6: it was none again", x.send(0, 0), -5);
        due.is("6: sent", x.load(0, 1), 0);
        x.pass(1);
        due.is("6: HUNG", x.send(0, 1), -3);
        due.is("6: HUNG, to none", x.send(0, -1), -3);
        due.is("6: NONE ahead of STATE", x.send(0, 2), -1);
        due.is("6: still 0", x.load(0, 1), 0);
        x.pass(2);
        due.is("6: LAID", x.send(0, 1), -3);
    }

    private static void winds() {
        GriefCranes x = new GriefCranes();
        due.is("7: k -1", x.wind(-1, 0), -1);
        due.is("7: k 4", x.wind(4, 0), -1);
        due.is("7: n -1", x.wind(0, -1), -2);
        due.is("7: n 10", x.wind(0, 10), -2);
        due.is("7: NONE ahead of BAD", x.wind(4, 10), -1);
        for (int k = 0; k < 4; k++) {
            due.is("7: it was 2", x.wind(k, 9 - k), 2);
            due.is("7: it was another", x.wind(k, k), 9 - k);
        }
        for (int k = 0; k < 4; k++) due.is("7: WIND " + k, x.told(10 + k), k);
        due.is("7: n 9", x.wind(3, 9), 3);
        due.is("7: told", x.told(13), 9);
    }

    private static void rows() {
        GriefCranes x = new GriefCranes();
        x.crane(6, 2);
        x.crane(3, 2);
        x.crane(6, 2);
        due.is("8: CRANE 3", x.row(3, 0, 1), -1);
        due.is("8: CRANE -1", x.row(-1, 0, 1), -1);
        due.is("8: part 4", x.row(0, 4, 1), -1);
        due.is("8: part -1", x.row(0, -1, 1), -1);
        due.is("8: n 10", x.row(0, 0, 10), -2);
        due.is("8: n -1", x.row(0, 0, -1), -2);
        due.is("8: NONE ahead of BAD", x.row(0, 4, 10), -1);
        due.is("8: BAD ahead of STATE", x.row(1, 0, 10), -2);
        due.is("8: a STEADY has none", x.row(1, 0, 1), -3);
        due.is("8: NONE ahead of STATE", x.row(1, 4, 1), -1);
        for (int part = 0; part < 4; part++) {
            due.is("8: it was 0", x.row(0, part, 9 - part), 0);
            due.is("8: it was another", x.row(0, part, part + 1), 9 - part);
        }
        due.is("8: the other's is its own", x.row(2, 0, 3), 0);
        due.is("8: the last", x.row(0, 3, 0), 4);
    }
}
