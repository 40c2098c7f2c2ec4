/** Promises 24 and 25: THE IMAGE, and all as THE IMAGE. */
public final class ImageTest {
    private static final Due due = new Due("ImageTest");

    public static void main(String[] args) {
        numbers();
        allIsAsTheImage();
        whatIsNotOfTheImage();
        cranesAnew();
        whatIsToldByHand();
        theFirmThatHolds();
        again();
        due.end();
    }

    private static void numbers() {
        GriefCranes x = new GriefCranes();
        due.is("25: there is none", x.undo(), -3);
        due.is("24: no CRANES", x.image(), 0);
        x.crane(0, 0);
        due.is("25: no CRANES", x.undo(), 0);
        due.is("25: none is there", x.count(0), 0);
        x.crane(0, 0);
        x.crane(1, 0);
        due.is("24: two CRANES", x.image(), 2);
        x.crane(0, 0);
        due.is("25: two CRANES", x.undo(), 2);
        due.is("25: two are there", x.count(0), 2);
    }

    private static GriefCranes full() {
        GriefCranes x = Make.with("bear 30;hang 4;strong 9 p<2");
        x.crane(6, 5);
        x.crane(5, 4);
        x.row(0, 1, 7);
        x.row(0, 3, 2);
        for (int t = 0; t < 5; t++) x.thing(4 * t, t % 2);
        x.see(1, 3, 2);
        x.see(2, 0, 0);
        x.plan(0, 0);
        x.plan(2, 3);
        x.book(0, 0);
        x.book(1, 5);
        x.wind(1, 3);
        x.pass(7);
        return x;
    }

    private static void allIsAsTheImage() {
        GriefCranes taken = full();
        taken.image();
        GriefCranes x = full();
        String before = Make.state(x);
        due.holds("24: taking it changes nothing", before.equals(Make.state(taken)));
        x.image();
        x.pass(9);
        x.crane(1, 1);
        x.row(0, 1, 1);
        x.row(0, 2, 1);
        x.thing(50, 2);
        x.send(3, 0);
        x.send(4, -1);
        for (int k = 0; k < 4; k++) x.wind(k, 9 - k);
        x.see(-1, 0, 0);
        x.see(0, 1, 1);
        x.plan(-1, 0);
        x.plan(1, 1);
        x.plan(3, 2);
        x.plan(0, 2);
        x.book(-1, 0);
        x.book(0, 7);
        due.holds("25: it was otherwise", !before.equals(Make.state(x)));
        due.is("25: two CRANES", x.undo(), 2);
        due.holds("25: all is as it was", before.equals(Make.state(x)));
        x.pass(3);
        GriefCranes y = full();
        y.pass(3);
        due.holds("25: all goes on as it would have", Make.state(y).equals(Make.state(x)));
    }

    private static void whatIsNotOfTheImage() {
        GriefCranes x = full();
        x.image();
        Make.firm(x, "hang 9");
        Make.type(x, "bear");
        x.tape(0, 0, 5);
        x.item(0, 2, 4);
        x.act(0, 2, 1);
        int ran = x.count(7);
        x.undo();
        due.is("25: FIRMS stay", x.count(2), 2);
        due.is("25: THE TEXT stays", x.count(6), 4);
        due.is("25: TAPES stay", x.read(0, 2), 4);
        due.is("25: THE TRACE stays", x.count(7), ran);
        due.is("25: the first body too", x.trace(0), 40);
        due.is("25: the next FIRM", Make.firm(x, " 7"), 2);
        due.is("25: it holds", x.told(1), 7);
    }

    private static void cranesAnew() {
        GriefCranes x = new GriefCranes();
        x.image();
        x.crane(6, 1);
        x.row(0, 0, 5);
        x.row(0, 1, 9);
        x.thing(0, -1);
        x.thing(3, 0);
        x.pass(3);
        due.is("25: LAID", x.load(1, 2), 2);
        due.is("25: LIFTS by that", x.of(0, 2), 1);
        x.undo();
        x.crane(6, 3);
        x.thing(0, -1);
        x.thing(40, -1);
        due.is("25: another has no LIFTS", x.of(0, 2), 0);
        due.is("25: another has a ROW of 0", x.of(0, 11), 30);
        due.is("25: from the first part on", x.of(0, 10), 30);
        due.is("25: another THING is STANDING", x.load(1, 2), 0);
        due.is("25: another THING is without SWING", x.load(1, 3), 0);
        due.is("25: another THING is without TIME", x.load(1, 4), 0);
        due.is("25: another THING has no CRANE", x.load(1, 1), -5);
    }

    private static void whatIsToldByHand() {
        GriefCranes x = new GriefCranes();
        x.crane(0, 0);
        x.thing(10, 0);
        x.thing(20, 0);
        x.see(0, 3, 2);
        x.see(1, 12, 2);
        x.plan(0, 0);
        x.plan(2, 1);
        x.plan(0, 0);
        x.plan(0, 0);
        x.book(0, 10);
        x.book(1, 20);
        x.book(0, 11);
        x.image();
        x.see(-1, 0, 0);
        x.see(1, 1, 1);
        x.see(0, 1, 3);
        x.plan(-1, 0);
        x.plan(3, 0);
        x.plan(1, 0);
        x.plan(2, 0);
        x.plan(2, 0);
        x.book(-1, 0);
        x.book(1, 9);
        x.book(0, 10);
        due.is("25: GRIEFS of other rows", x.load(0, 7), 0);
        due.is("25: ENDS of another PLAN", x.ends(0), 0);
        due.is("25: LOOKED at in another BOOK", x.looked(), 0);
        x.undo();
        due.is("25: GRIEFS of SEEN", x.load(0, 7), 31);
        due.is("25: ENDS of the PLAN", x.ends(0), 1);
        due.is("25: LOOKED at in the BOOK", x.looked(), 2);
    }

    private static void theFirmThatHolds() {
        GriefCranes x = new GriefCranes();
        x.image();
        Make.firm(x, "bear 50;hang 9");
        x.undo();
        due.is("25: none holds", x.told(1), 12);
        due.is("25: nor its hang", x.told(2), 2);
        Make.firm(x, "bear 60");
        due.is("25: the newest holds", x.told(1), 60);
        x.image();
        Make.firm(x, "bear 70;strong 5 p=0");
        Make.firm(x, "bear 80");
        x.undo();
        due.is("25: the one of THE IMAGE", x.told(1), 60);
        due.is("25: four", x.count(2), 4);
        Make.firm(x, "bear 7x");
        due.is("25: by a FAULT the one that held", x.told(1), 60);
    }

    private static void again() {
        GriefCranes x = new GriefCranes();
        x.crane(0, 0);
        x.image();
        for (int i = 0; i < 3; i++) {
            x.crane(i, i);
            x.pass(5);
            due.is("25: again", x.undo(), 1);
            due.is("25: HOUR again", x.told(0), 0);
        }
        x.crane(0, 0);
        due.is("24: a newer one", x.image(), 2);
        x.crane(0, 0);
        due.is("25: the newer one", x.undo(), 2);
    }
}
