import java.lang.reflect.Array;
import java.lang.reflect.Field;
import java.lang.reflect.Modifier;
import java.util.IdentityHashMap;
import java.util.Map;

/** Objects set up for a test. */
final class Make {
    private Make() {
    }

    static void type(GriefCranes x, String text) {
        for (int i = 0; i < text.length(); i++) x.feed(text.charAt(i));
    }

    /** What firm() answers for a text. */
    static int firm(GriefCranes x, String text) {
        type(x, text);
        return x.firm();
    }

    static GriefCranes with(String firm) {
        GriefCranes x = new GriefCranes();
        firm(x, firm);
        return x;
    }

    static void winds(GriefCranes x, int a, int b, int c, int d) {
        x.wind(0, a);
        x.wind(1, b);
        x.wind(2, c);
        x.wind(3, d);
    }

    /** All that is told of an object and asked of it, as a text; few calls, as an object is used for 512 at most. */
    static String state(GriefCranes x) {
        StringBuilder all = new StringBuilder();
        for (int what = 0; what <= 13; what++) all.append(x.told(what)).append(' ');
        for (int what = 0; what <= 7; what++) all.append(x.count(what)).append(' ');
        int cranes = x.count(0);
        int things = x.count(1);
        for (int c = 0; c < cranes; c++) {
            for (int what = 0; what <= 3; what++) all.append(x.of(c, what)).append(' ');
            for (int t = 0; t < things; t++) all.append(x.of(c, 10 + t)).append(' ');
        }
        for (int t = 0; t < things; t++) {
            for (int what = 0; what <= 8; what++) all.append(x.load(t, what)).append(' ');
        }
        for (int i = 0; i < x.count(7); i++) all.append(x.trace(i)).append(' ');
        all.append(x.looked()).append(' ').append(x.ends(0)).append(' ').append(x.ends(1)).append(' ');
        for (int tape = 0; tape < 6; tape++) all.append(x.read(tape, 0)).append(' ');
        return all.toString();
    }

    /** All that an object holds, as a text, by no call; not where it goes on with what is only asked. */
    static String inside(GriefCranes x) {
        StringBuilder all = new StringBuilder();
        try {
            write(x, all, new IdentityHashMap<>());
        } catch (IllegalAccessException e) {
            throw new IllegalStateException(e);
        }
        return all.toString();
    }

    private static void write(Object of, StringBuilder all, Map<Object, Integer> met) throws IllegalAccessException {
        if (of == null || met.containsKey(of)) return;
        met.put(of, met.size());
        for (Class<?> c = of.getClass(); c != Object.class; c = c.getSuperclass()) {
            for (Field field : c.getDeclaredFields()) {
                String name = field.getName();
                if (Modifier.isStatic(field.getModifiers()) || name.equals("trial") || name.equals("facts")) continue;
                field.setAccessible(true);
                all.append(name).append('=');
                writeValue(field.get(of), field.getType(), all, met);
                all.append(' ');
            }
        }
    }

    private static void writeValue(Object value, Class<?> type, StringBuilder all, Map<Object, Integer> met)
            throws IllegalAccessException {
        if (type.isPrimitive()) {
            all.append(value);
        } else if (value != null && type.isArray()) {
            for (int i = 0; i < Array.getLength(value); i++) {
                writeValue(Array.get(value, i), type.getComponentType(), all, met);
                all.append(',');
            }
        } else {
            // which object it is, by when it was met first
            all.append(value == null ? -1 : met.getOrDefault(value, met.size()));
            write(value, all, met);
        }
    }
}
