/** The boundary cases of the Terms 1, up to the FIRM: each sentence in a test of its own, told by its words. */
public final class FirmEdgesTest {
    private static final Due due = new Due("FirmEdgesTest");
    private static String words = "";

    public static void main(String[] args) {
        windNumbers();
        windOfTheHour();
        windBeyondTheLastHour();
        numbersOfCranes();
        numbersOfThings();
        textOfAHundred();
        textOfAHundredWithAFault();
        tenClauses();
        blanks();
        digitsOfClauses();
        digitsOfTests();
        withinFour();
        withinFourAlike();
        everyBeginning();
        everyOtherByte();
        lettersAtTheirEnds();
        signsOfTests();
        tenthOfGrief();
        theTenthHour();
        sixFirms();
        withoutAFirm();
        lastOfBearAndHang();
        sums();
        due.end();
    }

    private static void says(String sentence) {
        words = sentence;
    }

    private static void is(String what, long got, long want) {
        due.is(words + ": " + what, got, want);
    }

    /** The FAULT of a text, -1 for none. */
    private static void fault(String text, int place) {
        is("firm() of '" + text + "'", Make.firm(new GriefCranes(), text), place < 0 ? 0 : -10 - place);
    }

    private static void passTo(GriefCranes x, int hour) {
        while (x.told(0) < hour) x.pass(Math.min(60, hour - x.told(0)));
    }

    private static void windNumbers() {
        says("WIND: four numbers (0 .. 9; 2 at first)");
        GriefCranes x = Make.with("bear 99;hang 99");
        for (int k = 0; k < 4; k++) is("at first " + k, x.told(10 + k), 2);
        x.crane(0, 0);
        x.thing(0, 0);
        x.pass(1);
        x.pass(4);
        is("2 each HOUR", x.load(0, 3), 8);
        Make.winds(x, 0, 0, 0, 0);
        x.pass(4);
        is("0 is no SWING", x.load(0, 3), 8);
        Make.winds(x, 9, 9, 9, 9);
        x.pass(4);
        is("9 is the most", x.load(0, 3), 44);
        for (int k = 0; k < 4; k++) {
            is("-1", x.wind(k, -1), -2);
            is("10", x.wind(k, 10), -2);
            is("it stays", x.told(10 + k), 9);
        }
    }

    private static void windOfTheHour() {
        says("that of an HOUR is the one at HOUR modulo 4");
        GriefCranes x = Make.with("bear 99;hang 99");
        x.crane(0, 0);
        x.thing(0, 0);
        Make.winds(x, 1, 2, 3, 4);
        x.pass(1);
        int[] swings = {0, 2, 5, 9, 10, 12, 15, 19, 20};
        for (int n = 0; n < swings.length; n++) is("SWING on " + n, x.on(n, 20), swings[n]);
        for (int n = 0; n < swings.length; n++) {
            is("SWING behind " + n, x.load(0, 3), swings[n]);
            x.pass(1);
        }
    }

    private static void windBeyondTheLastHour() {
        says("that of an HOUR is the one at HOUR modulo 4, beyond 9999, too");
        GriefCranes x = Make.with("bear 99;hang 99");
        x.crane(0, 0);
        Make.winds(x, 1, 2, 3, 4);
        passTo(x, 9998);
        x.thing(0, 0);
        int[] swings = {0, 0, 4, 5, 7, 10, 14};
        for (int n = 0; n < swings.length; n++) is("SWING on " + n, x.on(n, 20), swings[n]);
    }

    private static void numbersOfCranes() {
        says("CRANES 0 .. 5, as they come; v (0 .. 9); LIFTS (0 at first)");
        GriefCranes x = new GriefCranes();
        for (int c = 0; c < 6; c++) is("number", x.crane(1, c % 2 * 9), c);
        is("a seventh", x.crane(1, 0), -4);
        is("CRANE 6", x.of(6, 0), -10001);
        x.thing(0, -1);
        for (int c = 0; c < 6; c++) {
            is("v", x.of(c, 1), c % 2 * 9);
            is("POWER with v", x.of(c, 10), 30 + c % 2 * 9);
            is("LIFTS", x.of(c, 2), 0);
        }
    }

    private static void numbersOfThings() {
        says("THINGS 0 .. 7, as they come, GRIEF (0 .. 99), STATE 0, SWING 0, TIME 0 at first");
        GriefCranes x = new GriefCranes();
        for (int t = 0; t < 8; t++) is("number", x.thing(t % 2 * 99, -1), t);
        is("a ninth", x.thing(0, -1), -4);
        is("THING 8", x.load(8, 0), -1);
        for (int t = 0; t < 8; t++) {
            is("GRIEF", x.load(t, 0), t % 2 * 99);
            for (int what = 2; what <= 4; what++) is("what " + what, x.load(t, what), 0);
        }
    }

    private static String tests(String first, int more) {
        StringBuilder text = new StringBuilder(first);
        for (int i = 0; i < more; i++) text.append("&p=0");
        return text.toString();
    }

    private static void textOfAHundred() {
        says("a FIRM is read from THE TEXT (bytes, 100 at most)");
        String text = tests("strong 9 p=0", 22);
        is("its length", text.length(), 100);
        GriefCranes x = new GriefCranes();
        Make.type(x, text);
        is("a 101st byte", x.feed('0'), -4);
        is("it is no part of it", x.firm(), 0);
        x.crane(0, 0);
        x.crane(0, 0);
        x.thing(0, -1);
        is("all 23 hold", x.of(0, 10), 39);
        is("not all 23 hold", x.of(1, 10), 30);
    }

    private static void textOfAHundredWithAFault() {
        says("the end of THE TEXT, if it ends too early: at 100");
        String open = tests("strong 9 (p=00&p=00&p=00", 19);
        is("its length", open.length(), 100);
        fault(open, 100);
        String last = tests("strong 9 p=0", 22).substring(0, 99);
        fault(last, 99);
        fault(last + "x", 99);
        fault(last + "0", -1);
        StringBuilder clauses = new StringBuilder("bear 12");
        while (clauses.length() + 8 <= 79) clauses.append(";hang 34");
        is("ten CLAUSES", clauses.length(), 79);
        fault(clauses.toString(), -1);
    }

    private static void tenClauses() {
        says("CLAUSES, 1 to 10, with ; between");
        fault("", 0);
        StringBuilder text = new StringBuilder();
        for (int i = 1; i <= 10; i++) {
            text.append("bear ").append(i % 10);
            fault(text.toString(), -1);
            fault(text + ";", i < 10 ? text.length() + 1 : text.length());
            fault(text + ";;", i < 10 ? text.length() + 1 : text.length());
            text.append(';');
        }
        fault(text + "bear 1", text.length() - 1);
        fault(";bear 1", 0);
    }

    private static void blanks() {
        says("one blank ahead of each part behind the word");
        fault("bear1", 4);
        fault("bear  1", 5);
        fault(" bear 1", 0);
        fault("bear 1 ", 6);
        fault("bear 1 ;hang 1", 6);
        fault("bear 1; hang 1", 7);
        fault("hang1", 4);
        fault("strong1 p=1", 6);
        fault("strong  1 p=1", 7);
        fault("strong 1p=1", 8);
        fault("strong 1  p=1", 9);
        fault("strong 1 p =1", 10);
        fault("strong 1 p= 1", 11);
        fault("strong 1 p=1 ", 12);
        fault("weak1 p=1", 4);
        fault("weak 1\tp=1", 6);
        fault("weak 1 ( p=1)", 8);
        fault("weak 1 (p=1 )", 11);
        fault("weak 1 ! p=1", 8);
    }

    private static void digitsOfClauses() {
        says("n 1 or 2 digits");
        String[] heads = {"bear ", "hang "};
        for (String head : heads) {
            fault(head, 5);
            fault(head + "0", -1);
            fault(head + "00", -1);
            fault(head + "9", -1);
            fault(head + "99", -1);
            fault(head + "000", 7);
            fault(head + "100", 7);
            fault(head + "-1", 5);
            fault(head + "+1", 5);
            fault(head + "1-", 6);
        }
        fault("strong  p=1", 7);
        fault("strong 0 p=1", -1);
        fault("strong 99 p=1", -1);
        fault("strong 100 p=1", 9);
        fault("weak  p=1", 5);
        fault("weak 00 p=1", -1);
        fault("weak 99 p=1", -1);
        fault("weak 001 p=1", 7);
    }

    private static void digitsOfTests() {
        says("a TEST: a number (1 or 2 digits)");
        fault("weak 1 p=", 9);
        fault("weak 1 p=;", 9);
        fault("weak 1 p=0", -1);
        fault("weak 1 p<00", -1);
        fault("weak 1 p>99", -1);
        fault("weak 1 p=000", 11);
        fault("weak 1 p=-1", 9);
        fault("weak 1 (p=1", 11);
        fault("weak 1 (p=12", 12);
        fault("weak 1 (p=123)", 12);
    }

    private static void withinFour() {
        says("a ( or ! within 4 others is none");
        for (int open = 0; open <= 6; open++) {
            StringBuilder round = new StringBuilder("weak 1 ");
            StringBuilder not = new StringBuilder("weak 1 ");
            for (int i = 0; i < open; i++) {
                round.append('(');
                not.append('!');
            }
            round.append("p=1");
            for (int i = 0; i < open; i++) round.append(')');
            fault(round.toString(), open <= 4 ? -1 : 11);
            fault(not + "p=1", open <= 4 ? -1 : 11);
        }
        String[] mixed = {"!(!(", "(!(!", "!!((", "((!!", "(!!(", "!((!"};
        for (String four : mixed) {
            fault("weak 1 " + four + "!p=1", 11);
            fault("weak 1 " + four + "(p=1)", 11);
            // a ! is over behind its F, a ( not before its )
            boolean open = four.endsWith("(");
            fault("weak 1 " + four + "p=1&!p=1", open ? 15 : 19);
            fault("weak 1 " + four + "p=1|(p=1)", open ? 15 : 20);
        }
    }

    private static void withinFourAlike() {
        says("a ( or ! within 4 others is none, beside them it is one");
        fault("weak 1 !!!!p=1&!!!!p=1|((((p=1))))", -1);
        fault("weak 1 !!!!p=1&!!!!!p=1", 19);
        fault("weak 1 (((!p=1&!p=1)|!p=1)|!p=1)|!p=1", -1);
        fault("weak 1 (((!p=1&!!p=1)))", 16);
        fault("weak 1 !!!!p=1;strong 1 ((((p=1))));weak 1 !(!(p=1))", -1);
        fault("weak 1 ((((", 11);
        fault("weak 1 (((((", 11);
    }

    private static void everyBeginning() {
        says("the FAULT: the end of THE TEXT, if it ends too early");
        String text = "strong 12 (p=1|!k<2)&x>03;weak 5 g=9;bear 07;hang 3";
        int[] whole = {20, 24, 25, 36, 43, 44, 51};
        is("its length", text.length(), 51);
        int next = 0;
        for (int length = 0; length <= 51; length++) {
            boolean stands = whole[next] == length;
            fault(text.substring(0, length), stands ? -1 : length);
            if (stands && next < whole.length - 1) next++;
        }
    }

    private static void everyOtherByte() {
        says("the FAULT: the place of the first byte with which none begins so");
        String text = "strong 12 (p=1|!k<2)&x>03;weak 5 g=9;bear 07;hang 3";
        char[] others = {0, 1, '\n', '"', '~', 127, 'S', '{'};
        for (int i = 0; i < text.length(); i++) {
            char other = others[i % others.length];
            fault(text.substring(0, i) + other + text.substring(i + 1), i);
            fault(text.substring(0, i) + '~', i);
        }
        fault(text + '~', 51);
        fault(text + "~~;", 51);
        fault(text + "0", -1);
        fault(text + "01", 52);
    }

    /** What a FIRM of "strong 9" and an E adds to the POWER of a CRANE for a THING, both the last of all. */
    private static int added(String e, int kind, int v, int grief, int hour) {
        GriefCranes x = Make.with("strong 9 " + e);
        for (int c = 0; c < 5; c++) x.crane(0, 0);
        x.crane(kind, v);
        for (int t = 0; t < 7; t++) x.thing(0, -1);
        x.thing(grief, -1);
        passTo(x, hour);
        GriefCranes y = new GriefCranes();
        for (int c = 0; c < 5; c++) y.crane(0, 0);
        y.crane(kind, v);
        for (int t = 0; t < 7; t++) y.thing(0, -1);
        y.thing(grief, -1);
        passTo(y, hour);
        return x.of(5, 17) - y.of(5, 17);
    }

    private static void lettersAtTheirEnds() {
        says("of a CRANE and a THING p the number of the one, k its KIND, v its v, x the number of the other");
        String[] so = {"p=5", "p>4", "p<6", "p<99", "x=7", "x>6", "x<8", "x<99", "v=9", "v>8", "v<10", "k=1", "k<2", "k>0"};
        String[] not = {"p=4", "p=6", "p>5", "p<5", "p=0", "x=6", "x=8", "x>7", "x<7", "x=0", "v=8", "v=10", "v>9", "v<9",
            "k=0", "k=2", "k>1", "k<1"};
        for (String e : so) is(e, added(e, 1, 9, 0, 0), 9);
        for (String e : not) is(e, added(e, 1, 9, 0, 0), 0);
        GriefCranes x = Make.with("strong 9 p=0;strong 10 x=0;strong 20 k=0;strong 30 v=0");
        x.crane(0, 0);
        x.thing(0, -1);
        is("all 0", x.of(0, 10), 99);
        GriefCranes y = Make.with("strong 9 k=6");
        y.crane(6, 9);
        y.thing(0, -1);
        is("KIND 6", y.of(0, 10), 39);
    }

    private static void signsOfTests() {
        says("< or = or >, of numbers less, alike and more");
        for (int n = 0; n <= 11; n++) {
            is("v<" + n, added("v<" + n, 0, 5, 0, 0), 5 < n ? 9 : 0);
            is("v=" + n, added("v=" + n, 0, 5, 0, 0), 5 == n ? 9 : 0);
            is("v>" + n, added("v>" + n, 0, 5, 0, 0), 5 > n ? 9 : 0);
        }
    }

    private static void tenthOfGrief() {
        says("g its GRIEF by 10 (cut)");
        int[][] rows = {{0, 0}, {9, 0}, {10, 1}, {19, 1}, {49, 4}, {50, 5}, {89, 8}, {90, 9}, {99, 9}};
        for (int[] row : rows) {
            for (int g = 0; g <= 10; g++) is("GRIEF " + row[0] + ", g=" + g, added("g=" + g, 0, 0, row[0], 0), g == row[1] ? 9 : 0);
        }
    }

    private static void theTenthHour() {
        says("h HOUR modulo 10");
        int[][] rows = {{0, 0}, {1, 1}, {9, 9}, {10, 0}, {11, 1}, {19, 9}, {20, 0}, {100, 0}, {9999, 9}};
        for (int[] row : rows) {
            is("HOUR " + row[0], added("h=" + row[1], 0, 0, 0, row[0]), 9);
            is("HOUR " + row[0] + ", less", added("h<" + row[1], 0, 0, 0, row[0]), 0);
            is("HOUR " + row[0] + ", more", added("h>" + row[1], 0, 0, 0, row[0]), 0);
        }
        GriefCranes x = Make.with("strong 9 h=0");
        x.crane(0, 0);
        passTo(x, 9999);
        x.thing(39, 0);
        is("not in HOUR 9999", x.on(1, 10), 0);
        is("in HOUR 10000, that is asked", x.on(2, 10), 1);
    }

    private static void sixFirms() {
        says("the newest FIRM holds (6 at most)");
        GriefCranes x = new GriefCranes();
        for (int i = 0; i < 6; i++) {
            is("number", Make.firm(x, "bear " + (10 + i)), i);
            is("it holds", x.told(1), 10 + i);
        }
        is("a seventh", Make.firm(x, "bear 77"), -4);
        is("the sixth holds", x.told(1), 15);
        is("THE TEXT stays", x.count(6), 7);
        is("six", x.count(2), 6);
    }

    private static void withoutAFirm() {
        says("without one there are no CLAUSES. BEAR (12 without), HANG (2 without)");
        GriefCranes x = new GriefCranes();
        is("BEAR", x.told(1), 12);
        is("HANG", x.told(2), 2);
        x.crane(0, 0);
        x.thing(0, -1);
        is("SUM", x.of(0, 10), 30);
        is("a FAULT is none", Make.firm(x, "bear 1;hang 1;weak 9 p=0;"), -35);
        is("BEAR behind a FAULT", x.told(1), 12);
        is("HANG behind a FAULT", x.told(2), 2);
        is("SUM behind a FAULT", x.of(0, 10), 30);
        Make.firm(x, "strong 1 p=9");
        is("BEAR without a bear", x.told(1), 12);
        is("HANG without a hang", x.told(2), 2);
        Make.firm(x, "hang 7");
        is("BEAR with a hang alone", x.told(1), 12);
        Make.firm(x, "bear 7");
        is("HANG with a bear alone", x.told(2), 2);
    }

    private static void lastOfBearAndHang() {
        says("the last n of bear, of hang");
        int[] numbers = {0, 1, 9, 10, 98, 99};
        for (int n : numbers) {
            GriefCranes x = Make.with("bear 5;hang 6;bear " + n + ";hang " + n + ";weak 1 p=0");
            is("BEAR " + n, x.told(1), n);
            is("HANG " + n, x.told(2), n);
        }
        GriefCranes x = Make.with("bear 99;bear 0;hang 99;hang 0");
        is("the last, not the most: BEAR", x.told(1), 0);
        is("the last, not the most: HANG", x.told(2), 0);
        Make.firm(x, "bear 07;hang 09");
        is("of two digits: BEAR", x.told(1), 7);
        is("of two digits: HANG", x.told(2), 9);
    }

    private static int sum(String firm) {
        GriefCranes x = Make.with(firm);
        x.crane(0, 0);
        x.thing(0, -1);
        return x.of(0, 10);
    }

    private static void sums() {
        says("SUM: 30, and the n of all strong whose E holds, less those of all weak (may be below 0)");
        is("strong 0", sum("strong 0 p=0"), 30);
        is("weak 0", sum("weak 0 p=0"), 30);
        is("strong 99", sum("strong 99 p=0"), 129);
        is("weak 30", sum("weak 30 p=0"), 0);
        is("weak 31", sum("weak 31 p=0"), -1);
        is("weak 99", sum("weak 99 p=0"), -69);
        is("none holds", sum("strong 99 p=1;weak 99 p=1"), 30);
        StringBuilder strong = new StringBuilder("strong 99 p=0");
        StringBuilder weak = new StringBuilder("weak 99 p=0");
        for (int i = 1; i < 7; i++) strong.append(";strong 99 p=0");
        for (int i = 1; i < 8; i++) weak.append(";weak 99 p=0");
        is("the most strong in 100 bytes", sum(strong.toString()), 30 + 7 * 99);
        is("the most weak in 100 bytes", sum(weak.toString()), 30 - 8 * 99);
    }
}
