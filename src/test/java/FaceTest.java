import java.io.IOException;
import java.lang.reflect.Constructor;
import java.lang.reflect.Field;
import java.lang.reflect.Method;
import java.lang.reflect.Modifier;
import java.nio.charset.StandardCharsets;
import java.nio.file.Files;
import java.nio.file.Path;
import java.util.Arrays;
import java.util.HashSet;
import java.util.Set;
import java.util.TreeSet;
import java.util.regex.Matcher;
import java.util.regex.Pattern;

/** The public face as the document has it, and what of LANGUAGE.md can be seen by looking. */
public final class FaceTest {
    private static final Due due = new Due("FaceTest");
    private static final String[] FACE = {
        "int crane(int,int)", "int of(int,int)", "int thing(int,int)", "int load(int,int)", "int send(int,int)",
        "int wind(int,int)", "int row(int,int,int)", "int feed(int)", "int firm()", "int told(int)", "int pass(int)",
        "int on(int,int)", "int best(int,int)", "int see(int,int,int)", "int can(int,int)", "long odds(int,int,int)",
        "long mean(int)", "int plan(int,int)", "int ends(int)", "int book(int,int)", "int looked()", "int judge(int,int)",
        "int image()", "int undo()", "int act(int,int,int)", "int trace(int)", "int taken(int,int)", "int count(int)",
        "int tape(int,int,int)", "int item(int,int,long)", "long read(int,int)", "int shift(int,int,int,int,int)"};

    public static void main(String[] args) throws IOException {
        due.is("NONE", GriefCranes.NONE, -1);
        due.is("BAD", GriefCranes.BAD, -2);
        due.is("STATE", GriefCranes.STATE, -3);
        due.is("FULL", GriefCranes.FULL, -4);
        due.is("NO", GriefCranes.NO, Long.MIN_VALUE);
        int mods = GriefCranes.class.getModifiers();
        due.holds("the class is public and final", Modifier.isPublic(mods) && Modifier.isFinal(mods));
        constructors();
        fields();
        methods();
        classesInside();
        words();
        due.end();
    }

    private static void constructors() {
        Constructor<?>[] all = GriefCranes.class.getDeclaredConstructors();
        due.is("constructors", all.length, 1);
        due.is("parameters of the constructor", all[0].getParameterCount(), 0);
        due.holds("the constructor is public", Modifier.isPublic(all[0].getModifiers()));
    }

    private static void fields() {
        Set<String> open = new TreeSet<>();
        for (Field field : GriefCranes.class.getDeclaredFields()) {
            if (!Modifier.isPrivate(field.getModifiers())) open.add(field.getName());
            boolean shared = Modifier.isStatic(field.getModifiers());
            due.holds("static fields are final: " + field.getName(), !shared || Modifier.isFinal(field.getModifiers()));
        }
        due.holds("public fields " + open, open.equals(new TreeSet<>(Arrays.asList("NONE", "BAD", "STATE", "FULL", "NO"))));
    }

    private static String signature(Method method) {
        StringBuilder text = new StringBuilder(method.getReturnType().getName()).append(' ').append(method.getName());
        char before = '(';
        for (Class<?> type : method.getParameterTypes()) {
            text.append(before).append(type.getName());
            before = ',';
        }
        return text.append(before == '(' ? "()" : ")").toString();
    }

    private static void methods() {
        Set<String> open = new TreeSet<>();
        Set<String> openNames = new HashSet<>();
        for (Method method : GriefCranes.class.getDeclaredMethods()) {
            if (Modifier.isPrivate(method.getModifiers())) continue;
            open.add(signature(method));
            openNames.add(method.getName());
        }
        due.holds("the face is " + open, open.equals(new TreeSet<>(Arrays.asList(FACE))));
        for (Method method : GriefCranes.class.getDeclaredMethods()) {
            boolean hidden = Modifier.isPrivate(method.getModifiers());
            due.holds("no private " + method.getName(), !hidden || !openNames.contains(method.getName()));
        }
    }

    private static void classesInside() {
        Class<?>[] inside = GriefCranes.class.getDeclaredClasses();
        due.holds("some twelve classes, not " + (inside.length + 1), inside.length < 12);
        for (Class<?> c : inside) {
            int mods = c.getModifiers();
            due.holds(c + " is static", Modifier.isStatic(mods));
            due.holds(c + " is not open", !Modifier.isPublic(mods) && !Modifier.isProtected(mods));
            int own = 0;
            for (Field field : c.getDeclaredFields()) {
                if (Modifier.isStatic(field.getModifiers())) {
                    due.holds(c + ": " + field.getName() + " is final", Modifier.isFinal(field.getModifiers()));
                } else {
                    own++;
                }
            }
            due.holds(c + " has some twenty fields", own <= 20);
            for (Method method : c.getDeclaredMethods()) {
                due.holds(c + "." + method.getName() + " takes seven at most", method.getParameterCount() <= 7);
            }
        }
    }

    /** The source without its comments and texts, looked at for what the language leaves out. */
    private static void words() throws IOException {
        String source = Files.readString(Path.of("src/main/java/GriefCranes.java"), StandardCharsets.UTF_8);
        String bare = source.replaceAll("(?s)/\\*.*?\\*/", " ").replaceAll("//[^\n]*", " ")
            .replaceAll("\"[^\"\n]*\"", "\"\"").replaceAll("'[^\n]'", "' '");
        for (String word : new String[] {"throw", "throws", "try", "catch", "finally", "synchronized", "assert", "import",
            "package", "float", "double", "protected", "volatile", "transient", "native", "instanceof", "enum", "record",
            "Object", "Thread", "Random", "toString", "hashCode", "var", "yield"}) {
            due.holds("no word " + word, !Pattern.compile("\\b" + word + "\\b").matcher(bare).find());
        }
        due.holds("no arrow", !bare.contains("->"));
        due.holds("no method reference", !bare.contains("::"));
        due.holds("no annotation", !bare.contains("@"));
        due.holds("no block of the class", !Pattern.compile("static\\s*\\{").matcher(bare).find());
        Set<String> calls = new TreeSet<>();
        Matcher call = Pattern.compile("\\b(System|Arrays|Math|Integer|Long|String)\\.(\\w+)").matcher(bare);
        while (call.find()) calls.add(call.group());
        Set<String> known = new TreeSet<>(Arrays.asList("System.arraycopy", "Math.min", "Math.max", "Integer.bitCount",
            "Long.MIN_VALUE"));
        due.holds("the library is no more than " + known + ": " + calls, known.containsAll(calls));
        for (String line : source.split("\n")) {
            due.holds("a line is not too long: " + line, line.length() <= 130);
        }
    }
}
