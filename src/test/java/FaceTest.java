import java.io.IOException;
import java.lang.reflect.Constructor;
import java.lang.reflect.Field;
import java.lang.reflect.Method;
import java.lang.reflect.Modifier;
import java.nio.file.Files;
import java.nio.file.Path;
import java.util.Set;
import java.util.TreeSet;
import java.util.regex.Matcher;
import java.util.regex.Pattern;

/** The public face as the document has it, and those rules of LANGUAGE.md that a look at the file tells. */
public final class FaceTest {
    private static final Checks CHECKS = new Checks();
    private static final Set<String> METHODS = Set.of("duchy/4", "ofPerson/2", "where/2", "train/2", "bid/2", "jar/2",
        "join/2", "part/1", "hours/1", "day/5", "match/1", "rather/0", "meet/2", "leads/5", "reading/4", "back/1",
        "steps/1", "wills/1", "kinds/1", "odds/4", "sheet/3", "lose/1", "put/3", "cell/3", "copy/5", "tell/1", "pat/1",
        "as/2", "trace/0", "fault/0", "many/1");
    private static final Set<String> LONGS = Set.of("where", "odds", "cell");

    public static void main(String[] args) throws IOException {
        constants();
        members();
        source(Files.readString(Path.of(System.getProperty("source"))));
        CHECKS.end();
    }

    private static void due(String what, boolean got) {
        CHECKS.due(what, got ? 1 : 0, 1);
    }

    private static void constants() {
        CHECKS.due("UNKNOWN", PantomimeHorses.UNKNOWN, -1);
        CHECKS.due("OUTSIDE", PantomimeHorses.OUTSIDE, -2);
        CHECKS.due("STATE", PantomimeHorses.STATE, -3);
        CHECKS.due("FULL", PantomimeHorses.FULL, -4);
        CHECKS.due("NONE", PantomimeHorses.NONE, -9);
        CHECKS.due("LOST", PantomimeHorses.LOST, Long.MIN_VALUE);
    }

    private static void members() {
        Class<?> c = PantomimeHorses.class;
        due("public and final", Modifier.isPublic(c.getModifiers()) && Modifier.isFinal(c.getModifiers()));
        Set<String> methods = new TreeSet<>();
        for (Method m : c.getDeclaredMethods()) {
            if (!Modifier.isPrivate(m.getModifiers())) {
                methods.add(m.getName() + "/" + m.getParameterCount());
                due(m.getName() + " answers", m.getReturnType() == (LONGS.contains(m.getName()) ? long.class : int.class));
                due(m.getName() + " is of an object", !Modifier.isStatic(m.getModifiers()));
                for (Class<?> t : m.getParameterTypes()) {
                    due(m.getName() + " takes ints", t == int.class);
                }
            }
        }
        due("the methods", methods.equals(METHODS));
        Set<String> fields = new TreeSet<>();
        for (Field f : c.getDeclaredFields()) {
            if (!Modifier.isPrivate(f.getModifiers())) {
                fields.add(f.getName());
            }
        }
        due("the constants", fields.equals(Set.of("UNKNOWN", "OUTSIDE", "STATE", "FULL", "NONE", "LOST")));
        Constructor<?>[] made = c.getDeclaredConstructors();
        due("one constructor", made.length == 1 && made[0].getParameterCount() == 0);
        ownNames(c);
    }

    private static void ownNames(Class<?> c) {
        for (Class<?> inner : c.getDeclaredClasses()) {
            due(inner + " is static", Modifier.isStatic(inner.getModifiers()) && !Modifier.isPublic(inner.getModifiers()));
            for (Method m : inner.getDeclaredMethods()) {
                due("a name of its own: " + m, METHODS.stream().noneMatch(s -> s.startsWith(m.getName() + "/")));
            }
        }
        Set<String> seen = new TreeSet<>();
        for (Method m : c.getDeclaredMethods()) {
            due("a name of its own: " + m, seen.add(m.getName()));
        }
    }

    private static void source(String text) {
        String code = text.replaceAll("(?s)/\\*.*?\\*/", "").replaceAll("//[^\n]*", "");
        Matcher m = Pattern.compile("\\b(throw|throws|try|catch|finally|synchronized|assert|import|package|protected|"
            + "toString|hashCode)\\b|->|::").matcher(code);
        boolean found = m.find();
        due("no word that is ruled out" + (found ? ": " + m.group() : ""), !found);
    }
}
