/** Objects set up for a test. */
final class Make {
    private Make() {
    }

    static void type(GriefCranes x, String text) {
        for (int i = 0; i < text.length(); i++) x.feed(text.charAt(i));
    }

    /** What firm() answers for a text. */
    static int firm(GriefCranes x, String text) {
        type(x, text);
        return x.firm();
    }

    static GriefCranes with(String firm) {
        GriefCranes x = new GriefCranes();
        firm(x, firm);
        return x;
    }

    static void winds(GriefCranes x, int a, int b, int c, int d) {
        x.wind(0, a);
        x.wind(1, b);
        x.wind(2, c);
        x.wind(3, d);
    }

    /** All that can be told of an object without asking what goes on, as a text. */
    static String state(GriefCranes x) {
        StringBuilder all = new StringBuilder();
        for (int what = 0; what <= 13; what++) all.append(x.told(what)).append(' ');
        for (int what = 0; what <= 7; what++) all.append(x.count(what)).append(' ');
        for (int c = 0; c < 6; c++) {
            for (int what = 0; what <= 17; what++) all.append(x.of(c, what)).append(' ');
        }
        for (int t = 0; t < 8; t++) {
            for (int what = 0; what <= 8; what++) all.append(x.load(t, what)).append(' ');
        }
        for (int i = 0; i < 20; i++) all.append(x.trace(i)).append(' ');
        all.append(x.looked()).append(' ').append(x.ends(0)).append(' ').append(x.ends(1)).append(' ');
        for (int tape = 0; tape < 6; tape++) {
            for (int i = 0; i < 60; i++) all.append(x.read(tape, i)).append(' ');
        }
        return all.toString();
    }
}
