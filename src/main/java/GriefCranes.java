/** Cranes that lift griefs, hour by hour. The document's numbered promises say what each call answers. */
public final class GriefCranes {
    public static final int NONE = -1, BAD = -2, STATE = -3, FULL = -4;
    /** There is no such number. */
    public static final long NO = Long.MIN_VALUE;

    /** What stands for NONE where an answer may be below 0 by itself. */
    private static final int LOW_NONE = -10001;
    /** The answer that there is none of what was asked for. */
    private static final int NOT_ANY = -5;
    private static final int NOTHING = -11, CAST = -12, PLACE = -13, SIZE = -14;
    private static final int FAULT_BASE = -10;

    private static final int STANDING = 0, HUNG = 1, LAID = 2, FALLEN = 3;
    /** Inside, no CRANE or no THING where a number would stand. */
    private static final int NOBODY = -1;
    private static final int TOLD_KIND = 6, KINDS = 7;
    private static final int[] KIND_ABOVE = {-1, 0, 0, 0, 1, 2, 3};

    private static final int WINDS = 4, CRANES_MOST = 6, THINGS_MOST = 8, ROW_PARTS = 4;
    private static final int DIGIT_MOST = 9, GRIEF_MOST = 99, SWING_MOST = 99, LIFTS_MOST = 9999;
    private static final int HOUR_MOST = 9999, PASS_MOST = 60, DOWN_MOST = 60;
    private static final int CHANGE_HOURS = 20, CREW_HOURS = 12, ODDS_HOURS = 20;
    private static final int SEEN_MOST = 5, SEEN_HOURS = 12, PLAN_MOST = 10, BOOK_MOST = 8;
    private static final int PLAN_HOUR = 0, PLAN_STILL = 1, PLAN_UNSENT = 2, PLAN_STANDING = 3;
    private static final int SIGN_MOST = 127, TEXT_MOST = 100, FIRMS_MOST = 6;
    private static final int TRACE_MOST = 20;
    private static final int TAPES = 6, TAPE_MOST = 60, EMPTY = -1, BYTES = 0, SHORTS = 1, INTS = 2, LONGS = 3, BOOLEANS = 4;
    private static final int JUDGED_SHORT = 100;

    private final Yard now;
    /** Where all that is only asked goes on, so that now stays as it is. */
    private final Yard trial;
    private final Yard imageYard;
    /** SEEN in columns: THING, HOURS from now, STATE; the PLAN: what, THING; the BOOK: THING, GRIEF. */
    private final Rows seen = new Rows(SEEN_MOST), imageSeen = new Rows(SEEN_MOST);
    private final Rows plans = new Rows(PLAN_MOST), imagePlans = new Rows(PLAN_MOST);
    private final Rows books = new Rows(BOOK_MOST), imageBooks = new Rows(BOOK_MOST);
    private boolean imageTaken = false;

    private final byte[] text = new byte[TEXT_MOST];
    private int textLength = 0;
    private final Firm[] firms = new Firm[FIRMS_MOST];
    private int firmCount = 0;

    private final Crane[] kinds;
    /** The kind that ran the latest act() and so keeps its TRACE; null, if none did. */
    private Crane actor = null;
    private final Tape[] tapes = new Tape[TAPES];

    public GriefCranes() {
        for (int i = 0; i < FIRMS_MOST; i++) firms[i] = new Firm();
        for (int i = 0; i < TAPES; i++) tapes[i] = new Tape();
        Crane[] all = {new Crane(), new Jib(), new Old(), new Steady(), new Giant(), new Rusty(), new Told()};
        Firm bare = new Firm();
        kinds = all;
        now = new Yard(all, bare);
        trial = new Yard(all, bare);
        imageYard = new Yard(all, bare);
    }

    // ---- cranes, things, firms

    public int crane(int kind, int v) {
        if (!within(kind, KINDS - 1)) return NONE;
        if (!within(v, DIGIT_MOST)) return BAD;
        if (now.cranes >= CRANES_MOST) return FULL;
        return now.addCrane(kind, v);
    }

    public int of(int crane, int what) {
        if (!now.hasCrane(crane)) return LOW_NONE;
        switch (what) {
            case 0: return now.kindNumbers[crane];
            case 1: return now.vs[crane];
            case 2: return now.lifts[crane];
            case 3: return orNotAny(now.hungBy(crane));
            default: break;
        }
        int thing = what - 10;
        return now.hasThing(thing) ? now.power(crane, thing) : LOW_NONE;
    }

    public int thing(int grief, int crane) {
        if (crane != NOBODY && !now.hasCrane(crane)) return NONE;
        if (!within(grief, GRIEF_MOST)) return BAD;
        if (now.things >= THINGS_MOST) return FULL;
        return now.addThing(grief, crane);
    }

    public int load(int thing, int what) {
        if (!now.hasThing(thing)) return NONE;
        switch (what) {
            case 0: return now.griefs[thing];
            case 1: return orNotAny(now.sents[thing]);
            case 2: return now.states[thing];
            case 3: return now.swings[thing];
            case 4: return now.times[thing];
            case 5:
                trial.copyFrom(now);
                return hoursUntilLaid(thing);
            case 6: return soonestCrane(thing);
            case 7: return numbersThatFit(thing, NOBODY, false);
            case 8: return numbersThatFit(thing, NOBODY, true);
            default: return NONE;
        }
    }

    public int send(int thing, int crane) {
        if (!now.hasThing(thing)) return NONE;
        if (crane != NOBODY && !now.hasCrane(crane)) return NONE;
        if (now.states[thing] != STANDING) return STATE;
        int was = now.sents[thing];
        now.sents[thing] = crane;
        return orNotAny(was);
    }

    public int wind(int k, int n) {
        if (!within(k, WINDS - 1)) return NONE;
        if (!within(n, DIGIT_MOST)) return BAD;
        int was = now.winds[k];
        now.winds[k] = n;
        return was;
    }

    public int row(int crane, int part, int n) {
        if (!now.hasCrane(crane) || !within(part, ROW_PARTS - 1)) return NONE;
        if (!within(n, DIGIT_MOST)) return BAD;
        if (now.kindNumbers[crane] != TOLD_KIND) return STATE;
        int was = now.rows[crane][part];
        now.rows[crane][part] = n;
        return was;
    }

    public int feed(int sign) {
        if (!within(sign, SIGN_MOST)) return BAD;
        if (textLength >= TEXT_MOST) return FULL;
        text[textLength] = (byte) sign;
        textLength++;
        return textLength;
    }

    public int firm() {
        if (firmCount >= FIRMS_MOST) return FULL;
        Firm next = firms[firmCount];
        int fault = next.readFrom(text, textLength);
        textLength = 0;
        if (fault != Firm.NO_FAULT) return FAULT_BASE - fault;
        now.firm = next;
        firmCount++;
        return firmCount - 1;
    }

    public int told(int what) {
        switch (what) {
            case 0: return now.hour;
            case 1: return now.firm.bear;
            case 2: return now.firm.hang;
            case 3: return now.bitsOf(STANDING);
            case 4: return now.bitsOf(HUNG);
            case 5: return now.bitsOf(LAID);
            case 6: return now.bitsOf(FALLEN);
            default: break;
        }
        int k = what - 10;
        return within(k, WINDS - 1) ? now.winds[k] : NONE;
    }

    // ---- hours

    public int pass(int n) {
        if (!within(n, PASS_MOST)) return BAD;
        if (now.hour + n > HOUR_MOST) return STATE;
        now.go(n);
        return now.hour;
    }

    public int on(int n, int what) {
        boolean counts = within(what, 1);
        int ofState = what - 10;
        int ofSwing = what - 20;
        if (!counts && !now.hasThing(ofState) && !now.hasThing(ofSwing)) return NONE;
        if (!within(n, PASS_MOST)) return BAD;
        trial.copyFrom(now);
        trial.go(n);
        if (counts) return trial.howMany(what == 0 ? LAID : FALLEN);
        return trial.hasThing(ofState) ? trial.states[ofState] : trial.swings[ofSwing];
    }

    public int best(int n, int what) {
        if (!within(what, 1)) return NONE;
        if (n < 1 || n > (what == 0 ? CHANGE_HOURS : CREW_HOURS)) return BAD;
        return what == 0 ? bestChange(n) : leastCrew(n);
    }

    // ---- seen, odds

    public int see(int thing, int n, int state) {
        if (thing == NOBODY) return seen.clear();
        if (!now.hasThing(thing)) return NONE;
        if (!within(n, SEEN_HOURS) || !within(state, FALLEN)) return BAD;
        return seen.add(thing, n, state);
    }

    public int can(int crane, int what) {
        if (!now.hasCrane(crane) || !within(what, 1)) return NONE;
        return numbersThatFit(NOBODY, crane, what == 1);
    }

    public long odds(int thing, int n, int part) {
        if (!now.hasThing(thing) || n < 1 || n > ODDS_HOURS || !within(part, 1)) return NO;
        int laid = 0;
        for (int w = 0; w <= DIGIT_MOST; w++) {
            trial.copyFrom(now);
            trial.winds[now.hour & 3] = w;
            trial.go(n);
            if (trial.isIn(thing, LAID)) laid++;
        }
        return lowestTerms(laid, DIGIT_MOST + 1, part);
    }

    public long mean(int part) {
        int standing = now.howMany(STANDING);
        if (standing == 0 || !within(part, 1)) return NO;
        int together = 0;
        for (int t = 0; t < now.things; t++) {
            if (now.isIn(t, STANDING)) together += now.griefs[t];
        }
        return lowestTerms(together, standing, part);
    }

    // ---- plans, books

    public int plan(int what, int thing) {
        if (what == -1) return plans.clear();
        if (!within(what, PLAN_STANDING)) return NONE;
        if (what != PLAN_HOUR && !now.hasThing(thing)) return NONE;
        return plans.add(what, thing, 0);
    }

    public int ends(int what) {
        if (!within(what, 1)) return NONE;
        trial.copyFrom(now);
        for (int i = 0; i < plans.size; i++) goPlanRow(plans.first[i], plans.second[i]);
        return trial.howMany(what == 0 ? LAID : FALLEN);
    }

    public int book(int thing, int grief) {
        if (thing == NOBODY) return books.clear();
        if (!now.hasThing(thing)) return NONE;
        if (!within(grief, GRIEF_MOST)) return BAD;
        return books.add(thing, grief, 0);
    }

    public int looked() {
        for (int i = 0; i < books.size; i++) {
            int thing = books.first[i];
            if (now.hasThing(thing) && now.griefs[thing] != books.second[i]) return i;
        }
        return NOT_ANY;
    }

    // ---- judging, the image, acts, tapes

    public int judge(int tape, int i) {
        if (!within(tape, TAPES - 1)) return NONE;
        Tape row = tapes[tape];
        if (row.sort != EMPTY && row.sort != BYTES) return CAST;
        for (int t = 0; t < now.things; t++) {
            // a place below 0 is never reached by going on, so the first look ends there
            if (i < 0 || i >= row.length - t) return JUDGED_SHORT + t;
            if (row.items[i + t] != now.griefs[t]) return t;
        }
        return NOT_ANY;
    }

    public int image() {
        imageYard.copyFrom(now);
        imageSeen.copyFrom(seen);
        imagePlans.copyFrom(plans);
        imageBooks.copyFrom(books);
        imageTaken = true;
        return now.cranes;
    }

    public int undo() {
        if (!imageTaken) return STATE;
        now.copyFrom(imageYard);
        seen.copyFrom(imageSeen);
        plans.copyFrom(imagePlans);
        books.copyFrom(imageBooks);
        return now.cranes;
    }

    public int act(int crane, int act, int x) {
        actor = null;
        if (!now.hasCrane(crane) || !within(act, 2)) return 0;
        actor = kinds[now.kindNumbers[crane]];
        actor.begin(crane, now.vs[crane]);
        switch (act) {
            case 0: return actor.leans(x);
            case 1: return actor.lifts(x);
            default: return actor.tells(x);
        }
    }

    public int trace(int i) {
        if (actor == null || i < 0 || i >= actor.ran || i >= TRACE_MOST) return NONE;
        return actor.bodies[i];
    }

    public int taken(int crane, int k) {
        if (!within(k, KINDS - 1)) return BAD;
        if (!now.hasCrane(crane)) return NOTHING;
        int kind = now.kindNumbers[crane];
        int above = kind;
        for (int step = 0; step < KINDS && within(above, KINDS - 1); step++) {
            if (above == k) return kind;
            above = KIND_ABOVE[above];
        }
        return CAST;
    }

    public int count(int what) {
        switch (what) {
            case 0: return now.cranes;
            case 1: return now.things;
            case 2: return firmCount;
            case 3: return seen.size;
            case 4: return plans.size;
            case 5: return books.size;
            case 6: return textLength;
            case 7: return actor == null ? 0 : actor.ran;
            default: return BAD;
        }
    }

    public int tape(int tape, int sort, int n) {
        if (!within(tape, TAPES - 1)) return NONE;
        if (sort != EMPTY && !within(sort, BOOLEANS)) return BAD;
        if (sort == EMPTY) {
            tapes[tape].become(EMPTY, 0);
            return 1;
        }
        if (n > TAPE_MOST) return BAD;
        if (n < 0) return SIZE;
        tapes[tape].become(sort, n);
        return 1;
    }

    public int item(int tape, int i, long v) {
        if (!within(tape, TAPES - 1)) return NONE;
        Tape row = tapes[tape];
        if (row.sort == EMPTY) return NOTHING;
        if (i < 0 || i >= row.length) return PLACE;
        row.items[i] = row.narrowed(v);
        return 1;
    }

    public long read(int tape, int i) {
        if (!within(tape, TAPES - 1)) return NO;
        Tape row = tapes[tape];
        return i < 0 || i >= row.length ? NO : row.items[i];
    }

    public int shift(int tape, int i, int other, int j, int n) {
        if (!within(tape, TAPES - 1) || !within(other, TAPES - 1)) return NONE;
        Tape from = tapes[tape];
        Tape to = tapes[other];
        if (from.sort == EMPTY || to.sort == EMPTY) return NOTHING;
        if (from.sort != to.sort) return CAST;
        if (n < 0 || i < 0 || j < 0) return PLACE;
        // by difference: i + n could wrap around
        if (n > from.length - i || n > to.length - j) return PLACE;
        System.arraycopy(from.items, i, to.items, j, n);
        return n;
    }

    // ---- what is asked

    private static boolean within(int n, int most) {
        return n >= 0 && n <= most;
    }

    private static int orNotAny(int number) {
        return number == NOBODY ? NOT_ANY : number;
    }

    private static long lowestTerms(int above, int below, int part) {
        int common = 1;
        for (int d = 2; d <= below; d++) {
            if (above % d == 0 && below % d == 0) common = d;
        }
        return part == 0 ? above / common : below / common;
    }

    /** DOWN of a THING, as the trial stands. */
    private int hoursUntilLaid(int thing) {
        for (int h = 0; h <= DOWN_MOST; h++) {
            if (trial.isIn(thing, LAID)) return h;
            if (trial.isIn(thing, FALLEN)) return NOT_ANY;
            trial.go(1);
        }
        return NOT_ANY;
    }

    private int soonestCrane(int thing) {
        if (!now.isIn(thing, STANDING)) return NOT_ANY;
        int found = NOT_ANY;
        int least = DOWN_MOST + 1;
        for (int c = 0; c < now.cranes; c++) {
            trial.copyFrom(now);
            trial.sents[thing] = c;
            int down = hoursUntilLaid(thing);
            if (down != NOT_ANY && down < least) {
                least = down;
                found = c;
            }
        }
        return found;
    }

    private int bestChange(int n) {
        trial.copyFrom(now);
        trial.go(n);
        int fewest = trial.howMany(FALLEN);
        int found = NOT_ANY;
        for (int a = 0; a < now.things; a++) {
            for (int b = a + 1; b < now.things; b++) {
                if (!now.isIn(a, STANDING) || !now.isIn(b, STANDING)) continue;
                trial.copyFrom(now);
                trial.sents[a] = now.sents[b];
                trial.sents[b] = now.sents[a];
                trial.go(n);
                int fallen = trial.howMany(FALLEN);
                if (fallen < fewest) {
                    fewest = fallen;
                    found = 10 * a + b;
                }
            }
        }
        return found;
    }

    private int leastCrew(int n) {
        int all = (1 << now.cranes) - 1;
        int enough = laidWith(all, n);
        int found = NOT_ANY;
        int fewest = CRANES_MOST + 1;
        for (int set = 0; set <= all; set++) {
            int size = Integer.bitCount(set);
            if (size < fewest && laidWith(set, n) >= enough) {
                fewest = size;
                found = set;
            }
        }
        return found;
    }

    /** How many are LAID behind n HOURS, if only CRANES of a set are sent for what is STANDING. */
    private int laidWith(int set, int n) {
        trial.copyFrom(now);
        for (int t = 0; t < now.things; t++) {
            int crane = now.sents[t];
            boolean kept = crane == NOBODY || (set >> crane & 1) == 1;
            if (now.isIn(t, STANDING) && !kept) trial.sents[t] = NOBODY;
        }
        trial.go(n);
        return trial.howMany(LAID);
    }

    /** GRIEFS of a THING or, without one, CAN of a CRANE: the least, or how many. */
    private int numbersThatFit(int thing, int crane, boolean least) {
        int most = thing != NOBODY ? GRIEF_MOST : DIGIT_MOST;
        int many = 0;
        for (int n = 0; n <= most; n++) {
            trial.copyFrom(now);
            if (thing != NOBODY) trial.griefs[thing] = n;
            else trial.vs[crane] = n;
            if (!allSeenIsSo()) continue;
            if (least) return n;
            many++;
        }
        return least ? NOT_ANY : many;
    }

    /** Whether the trial, going on, comes to all that is SEEN. */
    private boolean allSeenIsSo() {
        int last = 0;
        for (int i = 0; i < seen.size; i++) last = Math.max(last, seen.second[i]);
        for (int h = 0; h <= last; h++) {
            if (h > 0) trial.go(1);
            for (int i = 0; i < seen.size; i++) {
                if (seen.second[i] == h && !trial.isIn(seen.first[i], seen.third[i])) return false;
            }
        }
        return true;
    }

    private void goPlanRow(int what, int thing) {
        if (what == PLAN_HOUR) {
            trial.go(1);
            return;
        }
        if (!trial.hasThing(thing)) return;
        if (what == PLAN_STILL) trial.swings[thing] = 0;
        if (what == PLAN_UNSENT && trial.isIn(thing, STANDING)) trial.sents[thing] = NOBODY;
        if (what == PLAN_STANDING) trial.setFresh(thing, STANDING);
    }

    /** WIND, CRANES, THINGS, HOUR and which FIRM holds; all of it goes on by itself. */
    private static final class Yard {
        final Crane[] kinds;
        /** Never null: without a FIRM it is one that has no CLAUSES. */
        Firm firm;
        int hour = 0;
        final int[] winds = {2, 2, 2, 2};

        int cranes = 0;
        final int[] kindNumbers = new int[CRANES_MOST];
        final int[] vs = new int[CRANES_MOST];
        final int[] lifts = new int[CRANES_MOST];
        final int[][] rows = new int[CRANES_MOST][ROW_PARTS];

        int things = 0;
        final int[] griefs = new int[THINGS_MOST];
        final int[] sents = new int[THINGS_MOST];
        final int[] states = new int[THINGS_MOST];
        final int[] swings = new int[THINGS_MOST];
        final int[] times = new int[THINGS_MOST];

        /** What the letters of a FIRM mean, in the order of Firm.LETTERS. */
        private final int[] facts = new int[Firm.LETTER_COUNT];

        Yard(Crane[] kinds, Firm bare) {
            this.kinds = kinds;
            this.firm = bare;
        }

        boolean hasCrane(int crane) {
            return crane >= 0 && crane < cranes;
        }

        boolean hasThing(int thing) {
            return thing >= 0 && thing < things;
        }

        boolean isIn(int thing, int state) {
            return hasThing(thing) && states[thing] == state;
        }

        int addCrane(int kind, int v) {
            int c = cranes;
            kindNumbers[c] = kind;
            vs[c] = v;
            lifts[c] = 0;
            for (int part = 0; part < ROW_PARTS; part++) rows[c][part] = 0;
            cranes++;
            return c;
        }

        int addThing(int grief, int crane) {
            int t = things;
            griefs[t] = grief;
            sents[t] = crane;
            setFresh(t, STANDING);
            things++;
            return t;
        }

        void setFresh(int thing, int state) {
            states[thing] = state;
            swings[thing] = 0;
            times[thing] = 0;
        }

        void copyFrom(Yard other) {
            firm = other.firm;
            hour = other.hour;
            System.arraycopy(other.winds, 0, winds, 0, WINDS);
            cranes = other.cranes;
            System.arraycopy(other.kindNumbers, 0, kindNumbers, 0, CRANES_MOST);
            System.arraycopy(other.vs, 0, vs, 0, CRANES_MOST);
            System.arraycopy(other.lifts, 0, lifts, 0, CRANES_MOST);
            for (int c = 0; c < cranes; c++) System.arraycopy(other.rows[c], 0, rows[c], 0, ROW_PARTS);
            things = other.things;
            System.arraycopy(other.griefs, 0, griefs, 0, THINGS_MOST);
            System.arraycopy(other.sents, 0, sents, 0, THINGS_MOST);
            System.arraycopy(other.states, 0, states, 0, THINGS_MOST);
            System.arraycopy(other.swings, 0, swings, 0, THINGS_MOST);
            System.arraycopy(other.times, 0, times, 0, THINGS_MOST);
        }

        int howMany(int state) {
            return Integer.bitCount(bitsOf(state));
        }

        int bitsOf(int state) {
            int bits = 0;
            for (int t = 0; t < things; t++) {
                if (states[t] == state) bits |= 1 << t;
            }
            return bits;
        }

        int hungBy(int crane) {
            for (int t = 0; t < things; t++) {
                if (states[t] == HUNG && sents[t] == crane) return t;
            }
            return NOBODY;
        }

        int power(int crane, int thing) {
            int kind = kindNumbers[crane];
            facts[0] = crane;
            facts[1] = kind;
            facts[2] = vs[crane];
            facts[3] = thing;
            facts[4] = griefs[thing] / 10;
            facts[5] = hour % 10;
            return kinds[kind].power(firm.sum(facts), this, crane, thing);
        }

        void go(int hours) {
            for (int h = 0; h < hours; h++) {
                for (int c = 0; c < cranes; c++) {
                    int thing = hungBy(c);
                    if (thing == NOBODY) hangFirst(c);
                    else swingOn(c, thing);
                }
                hour++;
            }
        }

        private void hangFirst(int crane) {
            for (int t = 0; t < things; t++) {
                if (states[t] != STANDING || sents[t] != crane) continue;
                if (power(crane, t) < griefs[t]) continue;
                setFresh(t, HUNG);
                return;
            }
        }

        private void swingOn(int crane, int thing) {
            swings[thing] = Math.min(SWING_MOST, swings[thing] + winds[hour & 3]);
            times[thing]++;
            if (swings[thing] > firm.bear) {
                states[thing] = FALLEN;
            } else if (times[thing] >= firm.hang) {
                states[thing] = LAID;
                // what is only asked may go beyond, but no POWER looks further than 9
                lifts[crane] = Math.min(LIFTS_MOST, lifts[crane] + 1);
            }
        }
    }

    /** Rows told by hand, up to a limit. */
    private static final class Rows {
        final int[] first, second, third;
        int size = 0;

        Rows(int limit) {
            first = new int[limit];
            second = new int[limit];
            third = new int[limit];
        }

        int add(int a, int b, int c) {
            if (size >= first.length) return FULL;
            first[size] = a;
            second[size] = b;
            third[size] = c;
            size++;
            return size;
        }

        int clear() {
            size = 0;
            return size;
        }

        /** From rows of the same limit. */
        void copyFrom(Rows other) {
            size = other.size;
            System.arraycopy(other.first, 0, first, 0, size);
            System.arraycopy(other.second, 0, second, 0, size);
            System.arraycopy(other.third, 0, third, 0, size);
        }
    }

    /** The CLAUSES of a text, as steps: each E with its operators behind what they join. */
    private static final class Firm {
        static final int NO_FAULT = -1;
        static final String LETTERS = "pkvxgh";
        static final int LETTER_COUNT = 6;
        private static final int CLAUSES_MOST = 10, WITHIN_MOST = 4;
        private static final int BARE_SUM = 30, BARE_BEAR = 12, BARE_HANG = 2;
        private static final int LESS = 0, SAME = 1, MORE = 2, NOT = 3, AND = 4, OR = 5, STRONG = 6, WEAK = 7;

        int bear = BARE_BEAR;
        int hang = BARE_HANG;
        /** Each step stems from a byte of its own, so no text has more steps than bytes. */
        private final int[] does = new int[TEXT_MOST];
        private final int[] letters = new int[TEXT_MOST];
        private final int[] numbers = new int[TEXT_MOST];
        private int steps = 0;

        private byte[] bytes = null;
        private int length = 0;
        private int at = 0;
        private int number = 0;

        /** The place of the FAULT, or NO_FAULT. */
        int readFrom(byte[] text, int textLength) {
            bytes = text;
            length = Math.min(textLength, text.length);
            at = 0;
            steps = 0;
            bear = BARE_BEAR;
            hang = BARE_HANG;
            for (int clause = 0; clause < CLAUSES_MOST; clause++) {
                if (clause > 0 && !sign(';')) return at;
                if (!clause()) return at;
                if (at == length) return NO_FAULT;
            }
            return at;
        }

        int sum(int[] facts) {
            int sum = BARE_SUM;
            // the answers that are still to be joined, a bit each, the newest lowest:
            // three a level of ( and ! at most, so an int holds them
            int open = 0;
            for (int i = 0; i < steps; i++) {
                int top = open & 1;
                switch (does[i]) {
                    case NOT: open ^= 1; break;
                    case AND: open = open >> 1 & (top | ~1); break;
                    case OR: open = open >> 1 | top; break;
                    case STRONG: sum += top * numbers[i]; open = 0; break;
                    case WEAK: sum -= top * numbers[i]; open = 0; break;
                    default: open = open << 1 | (isSo(i, facts) ? 1 : 0); break;
                }
            }
            return sum;
        }

        private boolean isSo(int step, int[] facts) {
            int fact = facts[letters[step]];
            switch (does[step]) {
                case LESS: return fact < numbers[step];
                case SAME: return fact == numbers[step];
                default: return fact > numbers[step];
            }
        }

        // Each of these reads one part and says whether it is there; if not, at is the FAULT.

        private boolean clause() {
            int first = next();
            if (first == 'b' || first == 'h') {
                if (!amount(first == 'b' ? "bear" : "hang")) return false;
                if (first == 'b') bear = number;
                else hang = number;
                return true;
            }
            if (first != 's' && first != 'w') return false;
            if (!amount(first == 's' ? "strong" : "weak")) return false;
            int n = number;
            if (!sign(' ') || !either(0)) return false;
            addStep(first == 's' ? STRONG : WEAK, 0, n);
            return true;
        }

        private boolean amount(String word) {
            for (int i = 0; i < word.length(); i++) {
                if (!sign(word.charAt(i))) return false;
            }
            return sign(' ') && readNumber();
        }

        /** T or T|E, each T an F or F&T: as & binds closer, an OR waits until all F behind it are joined. */
        private boolean either(int within) {
            if (!single(within)) return false;
            boolean orWaits = false;
            for (int i = 0; i < length; i++) {
                int joins = next();
                if (joins != '&' && joins != '|') break;
                if (joins == '|' && orWaits) addStep(OR, 0, 0);
                if (joins == '|') orWaits = true;
                at++;
                if (!single(within)) return false;
                if (joins == '&') addStep(AND, 0, 0);
            }
            if (orWaits) addStep(OR, 0, 0);
            return true;
        }

        private boolean single(int within) {
            int opening = next();
            if (opening != '!' && opening != '(') return test();
            if (within >= WITHIN_MOST) return false;
            at++;
            if (opening == '(') return either(within + 1) && sign(')');
            if (!single(within + 1)) return false;
            addStep(NOT, 0, 0);
            return true;
        }

        private boolean test() {
            int letter = placeIn(LETTERS);
            if (letter < 0) return false;
            at++;
            // in the order of LESS, SAME, MORE
            int how = placeIn("<=>");
            if (how < 0) return false;
            at++;
            if (!readNumber()) return false;
            addStep(how, letter, number);
            return true;
        }

        private boolean readNumber() {
            if (!isDigit(next())) return false;
            number = next() - '0';
            at++;
            if (isDigit(next())) {
                number = number * 10 + next() - '0';
                at++;
            }
            return true;
        }

        private static boolean isDigit(int sign) {
            return sign >= '0' && sign <= '9';
        }

        private int placeIn(String signs) {
            return next() < 0 ? -1 : signs.indexOf((char) next());
        }

        private boolean sign(char due) {
            if (next() != due) return false;
            at++;
            return true;
        }

        /** The byte to be read next; -1 at the end. */
        private int next() {
            return bytes != null && at >= 0 && at < length ? bytes[at] : -1;
        }

        private void addStep(int how, int letter, int n) {
            if (steps >= TEXT_MOST) return;
            does[steps] = how;
            letters[steps] = letter;
            numbers[steps] = n;
            steps++;
        }
    }

    /** A row of up to TAPE_MOST items of one sort, or nothing. */
    private static final class Tape {
        int sort = EMPTY;
        /** 0 as long as it holds nothing. */
        int length = 0;
        /** Wide enough for every sort, so that one row serves them all. */
        final long[] items = new long[TAPE_MOST];

        void become(int newSort, int newLength) {
            sort = newSort;
            length = newLength;
            for (int i = 0; i < TAPE_MOST; i++) items[i] = 0;
        }

        long narrowed(long v) {
            switch (sort) {
                case BYTES: return (byte) v;
                case SHORTS: return (short) v;
                case INTS: return (int) v;
                case LONGS: return v;
                default: return v != 0 ? 1 : 0;
            }
        }
    }

    /** The KIND CRANE, and above all others: POWER, the bodies of its ACTS, and the TRACE of the latest. */
    private static class Crane {
        int number = 0;
        int v = 0;
        int ran = 0;
        final int[] bodies = new int[TRACE_MOST];

        int power(int sum, Yard yard, int crane, int thing) {
            return sum;
        }

        void begin(int craneNumber, int craneV) {
            number = craneNumber;
            v = craneV;
            ran = 0;
        }

        void began(int body) {
            if (ran < TRACE_MOST) bodies[ran] = body;
            ran++;
        }

        int leans(int x) {
            began(10);
            return x + number;
        }

        int lifts(int x) {
            began(11);
            return leans(x) - v;
        }

        int tells(int x) {
            began(12);
            return lifts(x) * 2;
        }
    }

    private static class Jib extends Crane {
        int power(int sum, Yard yard, int crane, int thing) {
            return sum + yard.vs[crane];
        }

        int lifts(int x) {
            began(20);
            return super.lifts(x) ^ 6;
        }
    }

    private static class Old extends Crane {
        int power(int sum, Yard yard, int crane, int thing) {
            return sum / 2 + 10;
        }

        int leans(int x) {
            began(30);
            return super.leans(x * 3);
        }
    }

    private static class Steady extends Crane {
        int power(int sum, Yard yard, int crane, int thing) {
            return yard.winds[yard.hour & 3] > yard.vs[crane] ? 0 : sum;
        }

        int tells(int x) {
            began(40);
            return super.tells(x) + lifts(1);
        }
    }

    private static final class Giant extends Jib {
        int power(int sum, Yard yard, int crane, int thing) {
            int asJib = super.power(sum, yard, crane, thing);
            return yard.griefs[thing] >= 50 ? 2 * asJib : asJib;
        }

        int leans(int x) {
            began(50);
            return -super.leans(x);
        }

        int lifts(int x) {
            began(51);
            return super.lifts(x + 1);
        }
    }

    private static final class Rusty extends Old {
        int power(int sum, Yard yard, int crane, int thing) {
            return super.power(sum, yard, crane, thing) - Math.min(9, yard.lifts[crane]);
        }

        int tells(int x) {
            began(60);
            return super.tells(x - number);
        }
    }

    private static final class Told extends Steady {
        int power(int sum, Yard yard, int crane, int thing) {
            return super.power(sum, yard, crane, thing) + yard.rows[crane][thing & 3];
        }

        int lifts(int x) {
            began(70);
            return super.lifts(x) + super.leans(2);
        }

        int leans(int x) {
            began(71);
            return super.leans(x) ^ v;
        }
    }
}
