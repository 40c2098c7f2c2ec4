import java.io.IOException;
import java.lang.reflect.Method;
import java.lang.reflect.Modifier;
import java.net.URL;
import java.net.URLClassLoader;
import java.nio.charset.StandardCharsets;
import java.nio.file.Files;
import java.nio.file.Path;
import java.util.ArrayList;
import java.util.List;
import java.util.regex.Matcher;
import java.util.regex.Pattern;
import java.util.stream.Stream;
import javax.tools.ToolProvider;

/** README.md is true: its example, compiled and run, answers what it says, and it names every call and every test. */
public final class ReadmeTest {
    private static final Due due = new Due("ReadmeTest");
    private static final Pattern ANSWERED = Pattern.compile("((?:int \\w+ = )?)(.+?); +// (-?\\d+): .+");

    public static void main(String[] args) throws IOException, ReflectiveOperationException {
        String readme = Files.readString(Path.of("README.md"), StandardCharsets.UTF_8);
        example(readme);
        everyCall(readme);
        everyTest(readme);
        due.end();
    }

    private static String exampleOf(String readme) {
        String head = "```java\n";
        int from = readme.indexOf(head);
        int to = readme.indexOf("```", from + head.length());
        return from < 0 || to < 0 ? "" : readme.substring(from + head.length(), to);
    }

    /** Each line that tells an answer is run, and its answer looked at; all others are run as they stand. */
    private static void example(String readme) throws IOException, ReflectiveOperationException {
        List<String> calls = new ArrayList<>();
        List<Long> wanted = new ArrayList<>();
        StringBuilder body = new StringBuilder();
        for (String line : exampleOf(readme).split("\n")) {
            Matcher m = ANSWERED.matcher(line);
            if (!m.matches()) {
                body.append(line).append('\n');
                continue;
            }
            body.append("got[").append(calls.size()).append("] = ").append(m.group(2)).append(";\n");
            if (!m.group(1).isEmpty()) body.append(m.group(1)).append("(int) got[").append(calls.size()).append("];\n");
            calls.add(m.group(2));
            wanted.add(Long.parseLong(m.group(3)));
        }
        due.holds("the example has answers", calls.size() > 10);
        long[] got = answers(body.toString(), calls.size());
        for (int i = 0; i < calls.size(); i++) due.is("the example: " + calls.get(i), got[i], wanted.get(i));
    }

    private static long[] answers(String body, int many) throws IOException, ReflectiveOperationException {
        Path folder = Files.createTempDirectory("readme");
        Path source = folder.resolve("Example.java");
        Path made = folder.resolve("Example.class");
        try {
            Files.writeString(source, "public final class Example {\npublic static void run(long[] got) {\n" + body + "}\n}\n");
            int code = ToolProvider.getSystemJavaCompiler().run(null, null, null, "-cp",
                System.getProperty("java.class.path"), "-d", folder.toString(), source.toString());
            due.is("javac of the example", code, 0);
            long[] got = new long[many];
            try (URLClassLoader loader = new URLClassLoader(new URL[] {folder.toUri().toURL()})) {
                if (code == 0) loader.loadClass("Example").getMethod("run", long[].class).invoke(null, (Object) got);
            }
            return got;
        } finally {
            Files.deleteIfExists(made);
            Files.deleteIfExists(source);
            Files.deleteIfExists(folder);
        }
    }

    private static void everyCall(String readme) {
        for (Method method : GriefCranes.class.getDeclaredMethods()) {
            if (!Modifier.isPublic(method.getModifiers())) continue;
            Pattern named = Pattern.compile("`" + method.getName() + "\\(([^()`]*)\\)`");
            Matcher m = named.matcher(readme);
            due.holds("it names " + method.getName(), m.find());
            int told = !m.reset().find() || m.group(1).isEmpty() ? 0 : m.group(1).split(",").length;
            due.is("the numbers that it tells of " + method.getName(), told, method.getParameterCount());
        }
    }

    private static void everyTest(String readme) throws IOException {
        try (Stream<Path> files = Files.list(Path.of("src/test/java"))) {
            files.map(file -> file.getFileName().toString().replace(".java", "")).filter(name -> name.endsWith("Test"))
                .forEach(name -> due.holds("it names " + name, readme.contains("`" + name + "`")));
        }
    }
}
