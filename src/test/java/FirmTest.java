/** Promises 9 to 11: THE TEXT, FIRMS and their FAULTS, what is told. */
public final class FirmTest {
    private static final Due due = new Due("FirmTest");

    public static void main(String[] args) {
        feeding();
        words();
        numbers();
        clauses();
        expressions();
        nesting();
        letters();
        lettersOfKinds();
        weighing();
        joining();
        chains();
        deepest();
        theLastBearAndHang();
        firmsCome();
        telling();
        due.end();
    }

    private static void feeding() {
        GriefCranes x = new GriefCranes();
        due.is("9: -1", x.feed(-1), -2);
        due.is("9: 128", x.feed(128), -2);
        due.is("9: largest", x.feed(Integer.MAX_VALUE), -2);
        due.is("9: nothing came", x.count(6), 0);
        due.is("9: 0", x.feed(0), 1);
        due.is("9: 127", x.feed(127), 2);
        for (int i = 3; i <= 100; i++) due.is("9: how many", x.feed('a'), i);
        due.is("9: FULL", x.feed('a'), -4);
        due.is("9: BAD ahead of FULL", x.feed(128), -2);
        due.is("9: a hundred", x.count(6), 100);
        due.is("10: a FAULT", x.firm(), -10);
        due.is("10: THE TEXT is empty by a FAULT", x.count(6), 0);
        due.is("9: from the first again", x.feed('a'), 1);
    }

    /** The FAULT is told as its place, -1 for none. */
    private static void fault(String text, int place) {
        GriefCranes x = new GriefCranes();
        due.is("10: '" + text + "'", Make.firm(x, text), place < 0 ? 0 : -10 - place);
        due.is("10: FIRMS behind '" + text + "'", x.count(2), place < 0 ? 1 : 0);
        due.is("10: THE TEXT behind '" + text + "'", x.count(6), 0);
    }

    private static void words() {
        fault("", 0);
        fault("x", 0);
        fault(" bear 1", 0);
        fault("Bear 1", 0);
        fault("b", 1);
        fault("bear", 4);
        fault("bear1", 4);
        fault("bear ", 5);
        fault("bear  1", 5);
        fault("bears 1", 4);
        fault("bend 1", 2);
        fault("hand 1", 3);
        fault("hang 1", -1);
        fault("hang 1 p=1", 6);
        fault("bear 1 p=1", 6);
        fault("weal 1 p=1", 3);
        fault("weak 1", 6);
        fault("weak 1 ", 7);
        fault("weak 1  p=1", 7);
        fault("weak p=1", 5);
        fault("strum 1 p=1", 3);
        fault("stronger 1 p=1", 6);
        fault("strong 1;bear 1", 8);
        fault("strong 1 p=1 ", 12);
        fault("strong 1 p=1", -1);
    }

    private static void numbers() {
        fault("bear 0", -1);
        fault("bear 00", -1);
        fault("bear 99", -1);
        fault("bear 100", 7);
        fault("bear -1", 5);
        fault("bear a", 5);
        fault("bear 1a", 6);
        fault("bear /", 5);
        fault("bear :", 5);
        fault("strong 123 p=1", 9);
        fault("strong 1 p=", 11);
        fault("strong 1 p=a", 11);
        fault("strong 1 p=12", -1);
        fault("strong 1 p=123", 13);
    }

    private static void clauses() {
        fault(";", 0);
        fault("bear 1;", 7);
        fault("bear 1;;", 7);
        fault("bear 1; hang 1", 7);
        fault("bear 1,hang 1", 6);
        fault("bear 1;hang 1;weak 1 p=1;strong 1 k=1", -1);
        StringBuilder ten = new StringBuilder("bear 0");
        for (int i = 1; i < 10; i++) ten.append(";hang ").append(i);
        fault(ten.toString(), -1);
        fault(ten + ";", ten.length());
        fault(ten + ";bear 1", ten.length());
        fault(ten + "1", -1);
        fault(ten + "11", ten.length() + 1);
    }

    private static void expressions() {
        fault("weak 1 q=1", 7);
        fault("weak 1 P=1", 7);
        fault("weak 1 p", 8);
        fault("weak 1 p!1", 8);
        fault("weak 1 p==1", 9);
        fault("weak 1 p<=1", 9);
        fault("weak 1 1=p", 7);
        fault("weak 1 p=1|", 11);
        fault("weak 1 p=1&", 11);
        fault("weak 1 p=1||k=1", 11);
        fault("weak 1 p=1&|k=1", 11);
        fault("weak 1 |p=1", 7);
        fault("weak 1 p=1 |k=1", 10);
        fault("weak 1 p=1|k=1&v=1|x=1", -1);
        fault("weak 1 p=1!k=1", 10);
        fault("weak 1 p=1(k=1)", 10);
        fault("weak 1 ()", 8);
        fault("weak 1 (p=1", 11);
        fault("weak 1 (p=1;bear 1", 11);
        fault("weak 1 p=1)", 10);
        fault("weak 1 (p=1)", -1);
        fault("weak 1 (p=1))", 12);
        fault("weak 1 (p=1)k=1", 12);
        fault("weak 1 !", 8);
        fault("weak 1 !p=1&!k=1|!(v=1|x=1)", -1);
        fault("weak 1 !!p=1", -1);
        fault("weak 1 !&p=1", 8);
    }

    private static void nesting() {
        fault("weak 1 ((((p=1))))", -1);
        fault("weak 1 (((((p=1)))))", 11);
        fault("weak 1 !!!!p=1", -1);
        fault("weak 1 !!!!!p=1", 11);
        fault("weak 1 !(!(p=1))", -1);
        fault("weak 1 !(!(!p=1))", 11);
        fault("weak 1 !(!((p=1)))", 11);
        fault("weak 1 ((((p=1|(", 15);
        fault("weak 1 ((((p=1&!", 15);
        fault("weak 1 ((((p=1", 14);
        fault("weak 1 ((((p=1)|(p=1))))", -1);
        fault("weak 1 !p=1&((((p=1))))", -1);
        fault("weak 1 ((((p=1))))|((((k=1))))", -1);
        fault("weak 1 ((((p=1))))&!((((k=1))))", 23);
    }

    /** The POWER of a CRANE of a kind with v for a THING, less 30. */
    private static int weighed(String text, int hours) {
        GriefCranes x = Make.with(text);
        x.crane(2, 0);
        x.crane(0, 7);
        x.thing(0, -1);
        x.thing(0, -1);
        x.thing(0, -1);
        x.thing(57, -1);
        for (int h = 0; h < hours; h++) x.pass(1);
        return x.of(1, 13) - 30;
    }

    private static void letters() {
        String[] so = {"p=1", "p<2", "p>0", "k=0", "k<1", "v=7", "v>6", "v<8", "x=3", "x>2", "x<4", "g=5", "g<6", "g>4",
            "h=4", "h>3", "h<5", "v=07"};
        String[] not = {"p=0", "p<1", "p>1", "k=1", "k<0", "k>0", "v=6", "v>7", "v<7", "x=2", "x>3", "x<3", "g=4", "g<5",
            "g>5", "g=57", "h=5", "h=14", "h>4", "h<4", "v=70", "v=71"};
        for (String test : so) due.is("10: " + test, weighed("strong 9 " + test, 14), 9);
        for (String test : not) due.is("10: " + test, weighed("strong 9 " + test, 14), 0);
    }

    private static void lettersOfKinds() {
        GriefCranes x = Make.with("strong 1 k=1;strong 2 k=4;strong 4 p=1;strong 8 v>3");
        x.crane(4, 3);
        x.crane(1, 4);
        x.thing(0, -1);
        due.is("10: of a GIANT", x.of(0, 10), 30 + 2 + 3);
        due.is("10: of a JIB", x.of(1, 10), 30 + 1 + 4 + 8 + 4);
    }

    private static void weighing() {
        due.is("10: strong", weighed("strong 12 p=1", 0), 12);
        due.is("10: weak", weighed("weak 12 p=1", 0), -12);
        due.is("10: all together", weighed("strong 12 p=1;weak 5 p=1;strong 30 p=0;weak 40 p=0;strong 1 p=1", 0), 8);
        due.is("10: neither bear nor hang weighs", weighed("bear 50;hang 60", 0), 0);
        due.is("10: of one digit and two", weighed("strong 9 p=1;strong 90 p=1;strong 09 p=1", 0), 108);
    }

    private static void joining() {
        String[] so = {"p=1|p=0", "p=0|p=1", "p=1&k=0", "!p=0", "!!p=1", "!(p=0|k=1)", "p=1|p=0&p=0", "p=0&p=0|p=1",
            "p=1|p=1&p=0", "!p=0&p=1", "!p=1|p=1", "(p=1|p=0)&p=1", "p=0|p=0|p=1", "p=1&p=1&p=1", "!(!(p=1&p=1)|p=0)",
            "p=1&(p=0|(p=0|(p=0|(p=1))))", "((((p=0|p=1&p=1)))|p=0)"};
        String[] not = {"p=0|p=0", "p=1&p=0", "p=0&p=1", "!p=1", "!!p=0", "!(p=1|k=1)", "(p=1|p=0)&p=0", "!p=1&p=1",
            "!(p=0|p=1)", "p=0|p=0|p=0", "p=1&p=1&p=0", "p=0&p=1&p=1", "!p=0&p=0", "p=0&(p=1|p=1)", "p=1&!(p=1&p=1)"};
        for (String e : so) due.is("10: " + e, weighed("strong 9 " + e, 0), 9);
        for (String e : not) due.is("10: " + e, weighed("strong 9 " + e, 0), 0);
    }

    /** Each chain of one to five F, with each way to join them by & and | and each of them so or not. */
    private static void chains() {
        for (int many = 1; many <= 5; many++) {
            for (int joins = 0; joins < 1 << many - 1; joins++) {
                for (int so = 0; so < 1 << many; so++) chain(many, joins, so);
            }
        }
    }

    private static void chain(int many, int joins, int so) {
        StringBuilder e = new StringBuilder();
        boolean any = false;
        boolean all = true;
        for (int i = 0; i < many; i++) {
            boolean or = i > 0 && (joins >> i - 1 & 1) == 1;
            if (i > 0) e.append(or ? '|' : '&');
            if (or) {
                any |= all;
                all = true;
            }
            all &= (so >> i & 1) == 1;
            e.append(i % 2 == 0 ? "p=" : "!p=").append((so >> i & 1) == (i + 1) % 2 ? 1 : 0);
        }
        int due9 = any || all ? 9 : 0;
        due.is("10: " + e, weighed("strong 9 " + e, 0), due9);
        due.is("10: !(" + e + ")", weighed("strong 9 !(" + e + ")", 0), 9 - due9);
        due.is("10: p=0|(" + e + ")&p=1", weighed("strong 9 p=0|(" + e + ")&p=1", 0), due9);
    }

    /** As many answers as there can be wait to be joined: within four others, two at each. */
    private static void deepest() {
        String open = "p=0|p=1&(";
        String four = open + open + open + open;
        due.is("10: deepest, so", weighed("strong 9 " + four + "p=0|p=1&p=1))))", 0), 9);
        due.is("10: deepest, not so", weighed("strong 9 " + four + "p=0|p=1&p=0))))", 0), 0);
        for (int level = 0; level < 4; level++) {
            String without = open.repeat(level) + "p=0|p=0&(" + open.repeat(3 - level);
            due.is("10: ended by & at " + level, weighed("strong 9 " + without + "p=0|p=1&p=1))))", 0), 0);
            String with = open.repeat(level) + "p=1|p=0&(" + open.repeat(3 - level);
            due.is("10: held by | at " + level, weighed("strong 9 " + with + "p=0|p=1&p=0))))", 0), 9);
        }
    }

    private static void theLastBearAndHang() {
        GriefCranes x = Make.with("bear 5;hang 6;bear 70;hang 8;strong 1 p=1");
        due.is("11: the last bear", x.told(1), 70);
        due.is("11: the last hang", x.told(2), 8);
        due.is("10: the second", Make.firm(x, "bear 3"), 1);
        due.is("11: bear of the newest", x.told(1), 3);
        due.is("11: hang without", x.told(2), 2);
        due.is("10: the third", Make.firm(x, "hang 0"), 2);
        due.is("11: bear without", x.told(1), 12);
        due.is("11: hang 0", x.told(2), 0);
        due.is("10: a FAULT behind both", Make.firm(x, "bear 4;hang 5;strong 7 p=0;!"), -37);
        due.is("10: neither was there", Make.firm(x, "weak 1 p=9"), 3);
        due.is("11: bear without again", x.told(1), 12);
        due.is("11: hang without again", x.told(2), 2);
        x.crane(0, 0);
        x.thing(0, -1);
        due.is("10: nor its strong", x.of(0, 10), 30);
    }

    private static void firmsCome() {
        GriefCranes x = new GriefCranes();
        x.crane(0, 0);
        x.thing(0, -1);
        for (int i = 0; i < 6; i++) {
            due.is("10: number", Make.firm(x, "strong " + i + " p=0;bear 2" + i), i);
            due.is("10: it holds", x.of(0, 10), 30 + i);
            due.is("10: a FAULT", Make.firm(x, "bear 9;weak 9 p=0;" + (i == 5 ? "" : "hang 7;x")), i == 5 ? -4 : -35);
            due.is("10: the one that held holds", x.of(0, 10), 30 + i);
            due.is("10: its bear too", x.told(1), 20 + i);
            due.is("10: its hang too", x.told(2), 2);
            due.is("10: how many", x.count(2), i + 1);
        }
        due.is("10: THE TEXT stays by FULL", x.count(6), 18);
        due.is("10: FULL again", x.firm(), -4);
        due.is("9: behind it", x.feed('h'), 19);
        due.is("10: six", x.count(2), 6);
    }

    private static void telling() {
        GriefCranes x = new GriefCranes();
        x.crane(0, 0);
        x.crane(0, 0);
        x.crane(0, 0);
        Make.firm(x, "bear 5;hang 2");
        Make.winds(x, 4, 2, 2, 5);
        x.thing(1, 0);
        x.thing(1, 0);
        x.thing(1, 1);
        x.thing(1, -1);
        due.is("11: STANDING", x.told(3), 15);
        x.pass(1);
        due.is("11: STANDING later", x.told(3), 10);
        due.is("11: HUNG", x.told(4), 5);
        x.pass(2);
        due.is("11: LAID", x.told(5), 5);
        due.is("11: HUNG later", x.told(4), 0);
        x.pass(2);
        due.is("11: HUNG again", x.told(4), 2);
        due.is("11: none FALLEN", x.told(6), 0);
        due.is("11: HOUR", x.told(0), 5);
        x.wind(1, 9);
        x.pass(1);
        due.is("11: FALLEN", x.told(6), 2);
        due.is("11: STANDING last", x.told(3), 8);
        due.is("11: LAID last", x.told(5), 5);
        for (int what : new int[] {-1, 7, 8, 9, 14, Integer.MAX_VALUE, Integer.MIN_VALUE}) {
            due.is("11: told(" + what + ")", x.told(what), -1);
        }
        due.is("11: WIND", x.told(11), 9);
        due.is("11: WIND 3", x.told(13), 5);
    }
}
