import java.util.ArrayList;
import java.util.Arrays;
import java.util.List;
import java.util.regex.Matcher;
import java.util.regex.Pattern;

/**
 * The document told a second time and otherwise, for ModelTest: lists of objects that are copied whole for
 * whatever is asked, FIRMS read by cutting their text in pieces, FAULTS by a pattern, ACTS by a table.
 */
final class Model {
    private static final int[] ABOVE = {-1, 0, 0, 0, 1, 2, 3};
    private static final Pattern FIRM = firmPattern();

    private static final class Lifter {
        int kind;
        int v;
        int lifts;
        int[] row = new int[4];
    }

    private static final class Load {
        int grief;
        int crane;
        int state;
        int swing;
        int time;
    }

    private static final class World {
        int hour;
        int[] wind = {2, 2, 2, 2};
        String firm = "";
        List<Lifter> cranes = new ArrayList<>();
        List<Load> things = new ArrayList<>();
        List<int[]> seen = new ArrayList<>();
        List<int[]> plan = new ArrayList<>();
        List<int[]> book = new ArrayList<>();

        World copy() {
            World w = new World();
            w.hour = hour;
            w.wind = wind.clone();
            w.firm = firm;
            for (Lifter c : cranes) {
                Lifter d = new Lifter();
                d.kind = c.kind;
                d.v = c.v;
                d.lifts = c.lifts;
                d.row = c.row.clone();
                w.cranes.add(d);
            }
            for (Load t : things) {
                Load u = new Load();
                u.grief = t.grief;
                u.crane = t.crane;
                u.state = t.state;
                u.swing = t.swing;
                u.time = t.time;
                w.things.add(u);
            }
            w.seen.addAll(seen);
            w.plan.addAll(plan);
            w.book.addAll(book);
            return w;
        }
    }

    private World world = new World();
    private World kept = null;
    private String text = "";
    private int firms = 0;
    private final List<Integer> trace = new ArrayList<>();
    private final int[] sorts = {-1, -1, -1, -1, -1, -1};
    private final long[][] tapes = new long[6][0];

    private static Pattern firmPattern() {
        String number = "[0-9][0-9]?";
        String test = "[pkvxgh][<=>]" + number;
        String factor = test;
        for (int level = 0; level < 4; level++) {
            String e = "(?:" + factor + ")(?:[|&](?:" + factor + "))*";
            factor = "(?:" + test + "|!(?:" + factor + ")|\\(" + e + "\\))";
        }
        String e = factor + "(?:[|&]" + factor + ")*";
        String clause = "(?:(?:strong|weak) " + number + " " + e + "|(?:bear|hang) " + number + ")";
        return Pattern.compile(clause + "(?:;" + clause + "){0,9}");
    }

    static int fault(String firm) {
        Matcher whole = FIRM.matcher(firm);
        if (whole.matches()) return -1;
        for (int i = 1; i <= firm.length(); i++) {
            Matcher part = FIRM.matcher(firm.substring(0, i));
            if (!part.matches() && !part.hitEnd()) return i - 1;
        }
        return firm.length();
    }

    // ---- FIRMS

    /** The pieces of an expression between a sign that stands in no parentheses. */
    private static List<String> pieces(String e, char sign) {
        List<String> all = new ArrayList<>();
        int depth = 0;
        int from = 0;
        for (int i = 0; i < e.length(); i++) {
            if (e.charAt(i) == '(') depth++;
            if (e.charAt(i) == ')') depth--;
            if (e.charAt(i) == sign && depth == 0) {
                all.add(e.substring(from, i));
                from = i + 1;
            }
        }
        all.add(e.substring(from));
        return all;
    }

    private static boolean holds(World w, String e, int crane, int thing) {
        List<String> parts = pieces(e, '|');
        if (parts.size() > 1) return parts.stream().anyMatch(p -> holds(w, p, crane, thing));
        parts = pieces(e, '&');
        if (parts.size() > 1) return parts.stream().allMatch(p -> holds(w, p, crane, thing));
        if (e.charAt(0) == '!') return !holds(w, e.substring(1), crane, thing);
        if (e.charAt(0) == '(') return holds(w, e.substring(1, e.length() - 1), crane, thing);
        int n = Integer.parseInt(e.substring(2));
        int is = 0;
        switch (e.charAt(0)) {
            case 'p': is = crane; break;
            case 'k': is = w.cranes.get(crane).kind; break;
            case 'v': is = w.cranes.get(crane).v; break;
            case 'x': is = thing; break;
            case 'g': is = w.things.get(thing).grief / 10; break;
            default: is = w.hour % 10; break;
        }
        return Integer.compare(is, n) == "<=>".indexOf(e.charAt(1)) - 1;
    }

    private static int last(World w, String word, int without) {
        int n = without;
        for (String clause : w.firm.split(";")) {
            if (clause.startsWith(word)) n = Integer.parseInt(clause.substring(5));
        }
        return n;
    }

    private static int sum(World w, int crane, int thing) {
        int sum = 30;
        for (String clause : w.firm.split(";")) {
            String[] parts = clause.split(" ");
            if (parts.length < 3 || !holds(w, parts[2], crane, thing)) continue;
            int n = Integer.parseInt(parts[1]);
            sum += parts[0].equals("strong") ? n : -n;
        }
        return sum;
    }

    private static int power(World w, int kind, int crane, int thing) {
        Lifter c = w.cranes.get(crane);
        Load t = w.things.get(thing);
        switch (kind) {
            case 0: return sum(w, crane, thing);
            case 1: return power(w, 0, crane, thing) + c.v;
            case 2: {
                int half = (int) Math.signum(sum(w, crane, thing)) * (Math.abs(sum(w, crane, thing)) / 2);
                return 10 + half;
            }
            case 3: return w.wind[w.hour % 4] <= c.v ? power(w, 0, crane, thing) : 0;
            case 4: return power(w, 1, crane, thing) * (t.grief >= 50 ? 2 : 1);
            case 5: return power(w, 2, crane, thing) - (c.lifts > 9 ? 9 : c.lifts);
            default: return power(w, 3, crane, thing) + c.row[thing % 4];
        }
    }

    // ---- HOURS

    private static int hung(World w, int crane) {
        for (int t = 0; t < w.things.size(); t++) {
            if (w.things.get(t).state == 1 && w.things.get(t).crane == crane) return t;
        }
        return -5;
    }

    private static void hour(World w) {
        int bear = last(w, "bear", 12);
        int hang = last(w, "hang", 2);
        for (int c = 0; c < w.cranes.size(); c++) {
            int at = hung(w, c);
            if (at >= 0) {
                Load t = w.things.get(at);
                t.swing += w.wind[w.hour % 4];
                if (t.swing > 99) t.swing = 99;
                t.time += 1;
                t.state = t.swing > bear ? 3 : t.time >= hang ? 2 : 1;
                if (t.state == 2) w.cranes.get(c).lifts++;
                continue;
            }
            for (int x = 0; x < w.things.size(); x++) {
                Load t = w.things.get(x);
                if (t.state == 0 && t.crane == c && power(w, w.cranes.get(c).kind, c, x) >= t.grief) {
                    t.state = 1;
                    t.swing = t.time = 0;
                    break;
                }
            }
        }
        w.hour++;
    }

    private static World behind(World w, int hours) {
        for (int h = 0; h < hours; h++) hour(w);
        return w;
    }

    private static int many(World w, int state) {
        return (int) w.things.stream().filter(t -> t.state == state).count();
    }

    private static int down(World from, int thing) {
        World w = from.copy();
        for (int h = 0; h <= 60; h++) {
            if (w.things.get(thing).state == 2) return h;
            hour(w);
        }
        return -5;
    }

    private static int sent(World w, int thing) {
        if (w.things.get(thing).state != 0) return -5;
        int best = -5;
        int bestDown = -5;
        for (int c = w.cranes.size() - 1; c >= 0; c--) {
            World v = w.copy();
            v.things.get(thing).crane = c;
            int down = down(v, thing);
            if (down >= 0 && (bestDown < 0 || down <= bestDown)) {
                best = c;
                bestDown = down;
            }
        }
        return best;
    }

    private static int change(World w, int n) {
        int asItIs = many(behind(w.copy(), n), 3);
        int[] fallen = new int[100];
        Arrays.fill(fallen, asItIs);
        for (int ab = 0; ab < 100; ab++) {
            int a = ab / 10;
            int b = ab % 10;
            if (a >= b || b >= w.things.size()) continue;
            World v = w.copy();
            Load s = v.things.get(a);
            Load t = v.things.get(b);
            if (s.state + t.state > 0) continue;
            int crane = s.crane;
            s.crane = t.crane;
            t.crane = crane;
            fallen[ab] = many(behind(v, n), 3);
        }
        int least = Arrays.stream(fallen).min().getAsInt();
        if (least == asItIs) return -5;
        for (int ab = 0; ab < 100; ab++) {
            if (fallen[ab] == least) return ab;
        }
        return -5;
    }

    private static int crew(World w, int n) {
        int asItIs = many(behind(w.copy(), n), 2);
        for (int size = 0; size <= 6; size++) {
            for (int set = 0; set < 1 << w.cranes.size(); set++) {
                if (Integer.bitCount(set) != size) continue;
                World v = w.copy();
                for (Load t : v.things) {
                    if (t.state == 0 && t.crane >= 0 && (set & 1 << t.crane) == 0) t.crane = -1;
                }
                if (many(behind(v, n), 2) >= asItIs) return set;
            }
        }
        return -5;
    }

    private static boolean seenIsSo(World w) {
        for (int[] row : w.seen) {
            if (behind(w.copy(), row[1]).things.get(row[0]).state != row[2]) return false;
        }
        return true;
    }

    private static List<Integer> fitting(World w, int thing, int crane) {
        List<Integer> all = new ArrayList<>();
        for (int n = 0; n < (thing >= 0 ? 100 : 10); n++) {
            World v = w.copy();
            if (thing >= 0) v.things.get(thing).grief = n;
            else v.cranes.get(crane).v = n;
            if (seenIsSo(v)) all.add(n);
        }
        return all;
    }

    private static int leastOf(List<Integer> all) {
        return all.isEmpty() ? -5 : all.get(0);
    }

    private static long fraction(int above, int below, int part) {
        int a = above;
        int b = below;
        while (b != 0) {
            int rest = a % b;
            a = b;
            b = rest;
        }
        return part == 0 ? above / a : below / a;
    }

    // ---- ACTS

    /** The number of the body of an ACT (0 leans, 1 lifts, 2 tells) at a KIND or the next above it. */
    private static int body(int kind, int act) {
        int[][] bodies = {{10, 11, 12}, {0, 20, 0}, {30, 0, 0}, {0, 0, 40}, {50, 51, 0}, {0, 0, 60}, {71, 70, 0}};
        return bodies[kind][act] != 0 ? bodies[kind][act] : body(ABOVE[kind], act);
    }

    private int run(int body, int self, int x) {
        trace.add(body);
        Lifter c = world.cranes.get(self);
        int above = ABOVE[body / 10 - 1];
        switch (body) {
            case 10: return x + self;
            case 11: return run(body(c.kind, 0), self, x) - c.v;
            case 12: return run(body(c.kind, 1), self, x) * 2;
            case 20: return run(body(above, 1), self, x) ^ 6;
            case 30: return run(body(above, 0), self, x * 3);
            case 40: {
                int first = run(body(above, 2), self, x);
                return first + run(body(c.kind, 1), self, 1);
            }
            case 50: return -run(body(above, 0), self, x);
            case 51: return run(body(above, 1), self, x + 1);
            case 60: return run(body(above, 2), self, x - self);
            case 70: {
                int first = run(body(above, 1), self, x);
                return first + run(body(above, 0), self, 2);
            }
            default: return run(body(above, 0), self, x) ^ c.v;
        }
    }

    // ---- the face

    private boolean noCrane(int c) {
        return c < 0 || c >= world.cranes.size();
    }

    private boolean noThing(int t) {
        return t < 0 || t >= world.things.size();
    }

    private static boolean out(int n, int most) {
        return n < 0 || n > most;
    }

    int crane(int kind, int v) {
        if (out(kind, 6)) return -1;
        if (out(v, 9)) return -2;
        if (world.cranes.size() == 6) return -4;
        Lifter c = new Lifter();
        c.kind = kind;
        c.v = v;
        world.cranes.add(c);
        return world.cranes.size() - 1;
    }

    int of(int crane, int what) {
        if (noCrane(crane)) return -10001;
        Lifter c = world.cranes.get(crane);
        if (what == 0) return c.kind;
        if (what == 1) return c.v;
        if (what == 2) return c.lifts;
        if (what == 3) return hung(world, crane);
        if (what < 10 || noThing(what - 10)) return -10001;
        return power(world, c.kind, crane, what - 10);
    }

    int thing(int grief, int crane) {
        if (crane != -1 && noCrane(crane)) return -1;
        if (out(grief, 99)) return -2;
        if (world.things.size() == 8) return -4;
        Load t = new Load();
        t.grief = grief;
        t.crane = crane;
        world.things.add(t);
        return world.things.size() - 1;
    }

    int load(int thing, int what) {
        if (noThing(thing) || out(what, 8)) return -1;
        Load t = world.things.get(thing);
        int crane = t.crane < 0 ? -5 : t.crane;
        if (what <= 4) return new int[] {t.grief, crane, t.state, t.swing, t.time}[what];
        if (what == 5) return down(world, thing);
        if (what == 6) return sent(world, thing);
        List<Integer> fit = fitting(world, thing, -1);
        return what == 7 ? fit.size() : leastOf(fit);
    }

    int send(int thing, int crane) {
        if (noThing(thing) || crane != -1 && noCrane(crane)) return -1;
        Load t = world.things.get(thing);
        if (t.state != 0) return -3;
        int was = t.crane < 0 ? -5 : t.crane;
        t.crane = crane;
        return was;
    }

    int wind(int k, int n) {
        if (out(k, 3)) return -1;
        if (out(n, 9)) return -2;
        int was = world.wind[k];
        world.wind[k] = n;
        return was;
    }

    int row(int crane, int part, int n) {
        if (noCrane(crane) || out(part, 3)) return -1;
        if (out(n, 9)) return -2;
        if (world.cranes.get(crane).kind != 6) return -3;
        int was = world.cranes.get(crane).row[part];
        world.cranes.get(crane).row[part] = n;
        return was;
    }

    int feed(int sign) {
        if (out(sign, 127)) return -2;
        if (text.length() == 100) return -4;
        text += (char) sign;
        return text.length();
    }

    int firm() {
        if (firms == 6) return -4;
        String all = text;
        text = "";
        int fault = fault(all);
        if (fault >= 0) return -10 - fault;
        world.firm = all;
        return firms++;
    }

    int told(int what) {
        if (what == 0) return world.hour;
        if (what == 1) return last(world, "bear", 12);
        if (what == 2) return last(world, "hang", 2);
        if (what >= 3 && what <= 6) {
            int bits = 0;
            for (int t = 0; t < world.things.size(); t++) {
                if (world.things.get(t).state == what - 3) bits += 1 << t;
            }
            return bits;
        }
        return what >= 10 && what <= 13 ? world.wind[what - 10] : -1;
    }

    int pass(int n) {
        if (out(n, 60)) return -2;
        if (world.hour + n > 9999) return -3;
        behind(world, n);
        return world.hour;
    }

    int on(int n, int what) {
        boolean state = what >= 10 && what < 10 + world.things.size();
        boolean swing = what >= 20 && what < 20 + world.things.size();
        if (what != 0 && what != 1 && !state && !swing) return -1;
        if (out(n, 60)) return -2;
        World w = behind(world.copy(), n);
        if (state) return w.things.get(what - 10).state;
        if (swing) return w.things.get(what - 20).swing;
        return many(w, what + 2);
    }

    int best(int n, int what) {
        if (out(what, 1)) return -1;
        if (n < 1 || n > 20 || what == 1 && n > 12) return -2;
        return what == 0 ? change(world, n) : crew(world, n);
    }

    int see(int thing, int n, int state) {
        if (thing == -1) {
            world.seen.clear();
            return 0;
        }
        if (noThing(thing)) return -1;
        if (out(n, 12) || out(state, 3)) return -2;
        if (world.seen.size() == 5) return -4;
        world.seen.add(new int[] {thing, n, state});
        return world.seen.size();
    }

    int can(int crane, int what) {
        if (noCrane(crane) || out(what, 1)) return -1;
        List<Integer> fit = fitting(world, -1, crane);
        return what == 0 ? fit.size() : leastOf(fit);
    }

    long odds(int thing, int n, int part) {
        if (noThing(thing) || n < 1 || n > 20 || out(part, 1)) return Long.MIN_VALUE;
        int laid = 0;
        for (int wind = 0; wind < 10; wind++) {
            World w = world.copy();
            w.wind[w.hour % 4] = wind;
            if (behind(w, n).things.get(thing).state == 2) laid++;
        }
        return fraction(laid, 10, part);
    }

    long mean(int part) {
        int n = many(world, 0);
        if (n == 0 || out(part, 1)) return Long.MIN_VALUE;
        return fraction(world.things.stream().filter(t -> t.state == 0).mapToInt(t -> t.grief).sum(), n, part);
    }

    int plan(int what, int thing) {
        if (what == -1) {
            world.plan.clear();
            return 0;
        }
        if (out(what, 3) || what != 0 && noThing(thing)) return -1;
        if (world.plan.size() == 10) return -4;
        world.plan.add(new int[] {what, thing});
        return world.plan.size();
    }

    int ends(int what) {
        if (out(what, 1)) return -1;
        World w = world.copy();
        for (int[] row : w.plan) {
            if (row[0] == 0) {
                hour(w);
                continue;
            }
            Load t = w.things.get(row[1]);
            if (row[0] == 2 && t.state == 0) t.crane = -1;
            if (row[0] == 3) t.state = t.time = 0;
            if (row[0] != 2) t.swing = 0;
        }
        return many(w, what + 2);
    }

    int book(int thing, int grief) {
        if (thing == -1) {
            world.book.clear();
            return 0;
        }
        if (noThing(thing)) return -1;
        if (out(grief, 99)) return -2;
        if (world.book.size() == 8) return -4;
        world.book.add(new int[] {thing, grief});
        return world.book.size();
    }

    int looked() {
        for (int[] row : world.book) {
            if (world.things.get(row[0]).grief != row[1]) return world.book.indexOf(row);
        }
        return -5;
    }

    int judge(int tape, int i) {
        if (out(tape, 5)) return -1;
        if (sorts[tape] > 0) return -12;
        int looked = 0;
        for (Load t : world.things) {
            long place = (long) i + looked;
            if (place < 0 || place >= tapes[tape].length) return 100 + looked;
            if (tapes[tape][(int) place] != t.grief) return looked;
            looked++;
        }
        return -5;
    }

    int image() {
        kept = world.copy();
        return kept.cranes.size();
    }

    int undo() {
        if (kept == null) return -3;
        world = kept.copy();
        return world.cranes.size();
    }

    int act(int crane, int act, int x) {
        trace.clear();
        if (noCrane(crane) || out(act, 2)) return 0;
        return run(body(world.cranes.get(crane).kind, act), crane, x);
    }

    int trace(int i) {
        return i < 0 || i >= trace.size() || i >= 20 ? -1 : trace.get(i);
    }

    int taken(int crane, int k) {
        if (out(k, 6)) return -2;
        if (noCrane(crane)) return -11;
        int kind = world.cranes.get(crane).kind;
        for (int at = kind; at >= 0; at = ABOVE[at]) {
            if (at == k) return kind;
        }
        return -12;
    }

    int count(int what) {
        if (out(what, 7)) return -2;
        return new int[] {world.cranes.size(), world.things.size(), firms, world.seen.size(), world.plan.size(),
            world.book.size(), text.length(), trace.size()}[what];
    }

    int tape(int tape, int sort, int n) {
        if (out(tape, 5)) return -1;
        if (sort < -1 || sort > 4 || sort >= 0 && n > 60) return -2;
        if (sort >= 0 && n < 0) return -14;
        sorts[tape] = sort;
        tapes[tape] = new long[sort < 0 ? 0 : n];
        return 1;
    }

    int item(int tape, int i, long v) {
        if (out(tape, 5)) return -1;
        if (sorts[tape] < 0) return -11;
        if (out(i, tapes[tape].length - 1)) return -13;
        int away = new int[] {56, 48, 32, 0, 0}[sorts[tape]];
        tapes[tape][i] = sorts[tape] == 4 ? Math.abs(Long.signum(v)) : v << away >> away;
        return 1;
    }

    long read(int tape, int i) {
        return out(tape, 5) || out(i, tapes[tape].length - 1) ? Long.MIN_VALUE : tapes[tape][i];
    }

    int shift(int tape, int i, int other, int j, int n) {
        if (out(tape, 5) || out(other, 5)) return -1;
        if (sorts[tape] < 0 || sorts[other] < 0) return -11;
        if (sorts[tape] != sorts[other]) return -12;
        if (n < 0 || i < 0 || j < 0 || (long) i + n > tapes[tape].length || (long) j + n > tapes[other].length) return -13;
        long[] before = tapes[tape].clone();
        for (int k = 0; k < n; k++) tapes[other][j + k] = before[i + k];
        return n;
    }
}
