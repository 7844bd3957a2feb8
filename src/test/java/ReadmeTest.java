import java.io.IOException;
import java.lang.reflect.Method;
import java.lang.reflect.Modifier;
import java.net.URL;
import java.net.URLClassLoader;
import java.nio.file.Files;
import java.nio.file.Path;
import java.util.ArrayList;
import java.util.List;
import java.util.Set;
import java.util.TreeSet;
import java.util.regex.Matcher;
import java.util.regex.Pattern;
import java.util.stream.Stream;
import javax.tools.ToolProvider;

/** README.md: the lines of its Java parts are run as they stand there, and answer what is shown behind each. */
public final class ReadmeTest {
    private static final Checks CHECKS = new Checks();
    private static final int MOST_CALLS = 512;
    private static final Pattern PART = Pattern.compile("(?s)```java\n(.*?)```");
    private static final Pattern SHOWN = Pattern.compile("(x\\.(\\w+)\\(.*\\));\\s*// (-?\\d+|[A-Z]+)(:.*)?");
    private static final Pattern TEST = Pattern.compile("`(\\w+Test)`");

    public static void main(String[] args) throws IOException, ReflectiveOperationException {
        String page = Files.readString(Path.of("README.md"));
        List<String> lines = linesOf(page);
        answers(lines);
        everyCall(lines);
        everyTest(page);
        CHECKS.end();
    }

    private static List<String> linesOf(String page) {
        List<String> lines = new ArrayList<>();
        for (Matcher m = PART.matcher(page); m.find();) {
            m.group(1).lines().forEach(lines::add);
        }
        return lines;
    }

    private static void answers(List<String> lines) throws IOException, ReflectiveOperationException {
        StringBuilder body = new StringBuilder();
        List<Matcher> shown = new ArrayList<>();
        for (String line : lines) {
            Matcher m = SHOWN.matcher(line);
            if (m.matches()) {
                shown.add(m);
                body.append("got.add((long) ").append(m.group(1)).append(");\n");
            } else {
                CHECKS.due("an answer is shown of " + line, line.startsWith("x.") ? 0 : 1, 1);
                body.append(line).append('\n');
            }
        }
        List<?> got = run(body.toString());
        CHECKS.due("how many answers there are", got.size(), shown.size());
        CHECKS.due("not more calls than an object is made for", got.size() > MOST_CALLS ? 0 : 1, 1);
        for (int k = 0; k < got.size(); k++) {
            CHECKS.due("README.md: " + shown.get(k).group(1), (Long) got.get(k), meant(shown.get(k).group(3)));
        }
    }

    /** An answer is shown as a number, or by the name that the class has for it. */
    private static long meant(String answer) throws ReflectiveOperationException {
        if (Character.isLetter(answer.charAt(0))) {
            return PantomimeHorses.class.getField(answer).getLong(null);
        }
        return Long.parseLong(answer);
    }

    private static List<?> run(String body) throws IOException, ReflectiveOperationException {
        Path build = Files.createTempDirectory("readme");
        Path file = build.resolve("Shown.java");
        Path made = build.resolve("Shown.class");
        try (URLClassLoader loader = new URLClassLoader(new URL[] {build.toUri().toURL()})) {
            Files.writeString(file, "import java.util.*;\npublic final class Shown {\n"
                + "public static List<Long> answers() {\nList<Long> got = new ArrayList<>();\n" + body
                + "return got;\n}\n}\n");
            int code = ToolProvider.getSystemJavaCompiler().run(null, null, null, "--release", "17", "-proc:none",
                "-cp", System.getProperty("java.class.path"), "-d", build.toString(), file.toString());
            CHECKS.due("javac of what README.md shows", code, 0);
            return code == 0 ? (List<?>) loader.loadClass("Shown").getMethod("answers").invoke(null) : List.of();
        } finally {
            Files.deleteIfExists(made);
            Files.deleteIfExists(file);
            Files.deleteIfExists(build);
        }
    }

    private static void everyCall(List<String> lines) {
        Set<String> shown = new TreeSet<>();
        for (String line : lines) {
            Matcher m = SHOWN.matcher(line);
            if (m.matches()) {
                shown.add(m.group(2));
            }
        }
        for (Method m : PantomimeHorses.class.getDeclaredMethods()) {
            if (Modifier.isPublic(m.getModifiers())) {
                CHECKS.due("README.md shows " + m.getName(), shown.contains(m.getName()) ? 1 : 0, 1);
            }
        }
    }

    private static void everyTest(String page) throws IOException {
        Set<String> named = new TreeSet<>();
        for (Matcher m = TEST.matcher(page); m.find();) {
            named.add(m.group(1));
        }
        Set<String> there = new TreeSet<>();
        try (Stream<Path> files = Files.list(Path.of("src/test/java"))) {
            files.map(f -> f.getFileName().toString()).filter(f -> f.endsWith("Test.java"))
                .forEach(f -> there.add(f.substring(0, f.length() - ".java".length())));
        }
        CHECKS.same("the tests that README.md names", named.toString(), there.toString());
    }
}
