import java.io.IOException;
import java.lang.reflect.Constructor;
import java.lang.reflect.Field;
import java.lang.reflect.Method;
import java.lang.reflect.Modifier;
import java.nio.file.Files;
import java.nio.file.Path;
import java.util.Set;
import java.util.TreeSet;

/** What LANGUAGE.md rules out, as far as words of the source or the class's face show it. */
public final class LanguageTest {
    private static final String[] RULED_OUT = {"\\bthrow\\b", "\\btry\\b", "\\bcatch\\b", "\\bsynchronized\\b",
        "\\bassert\\b", "->", "::", "\\bimport\\b", "\\bpackage\\b", "\\bprotected\\b", "\\bsuper\\b",
        "\\bObject\\b", "\\bwhile \\(true\\)", "Exact\\b", "\\bSystem\\.(?!arraycopy)", "\"\\s*\\+", "\\+\\s*\""};

    public static void main(String[] args) throws IOException {
        String source = Files.readString(Path.of("src/main/java/GearHolds.java"));
        String code = source.replaceAll("(?s)/\\*.*?\\*/", "").replaceAll("//[^\n]*", "");
        for (String word : RULED_OUT) {
            Due.is("'" + word + "' in the source", 0, code.split(word, -1).length - 1);
        }
        for (int i = 0; i < source.length(); i++) {
            Due.is("sign at " + i, 1, source.charAt(i) < 128 ? 1 : 0);
        }
        face();
        nested();
        Due.end();
    }

    private static void face() {
        Set<String> open = new TreeSet<>();
        Set<String> shut = new TreeSet<>();
        for (Method m : GearHolds.class.getDeclaredMethods()) {
            if (!m.isSynthetic()) {
                (Modifier.isPublic(m.getModifiers()) ? open : shut).add(m.getName());
                Due.is(m.getName() + " is public or private", 1,
                        (m.getModifiers() & (Modifier.PUBLIC | Modifier.PRIVATE)) != 0 ? 1 : 0);
            }
        }
        Set<String> due = new TreeSet<>(Set.of("gear", "fails", "trues", "up", "down", "slope", "driver",
                "sets", "of", "clutch", "ties", "simple", "way", "over", "worst", "want", "drives", "puts",
                "state", "type", "clear", "reads", "why", "back", "told", "digest"));
        Due.is("the public methods " + open, 1, open.equals(due) ? 1 : 0);
        shut.retainAll(due);
        Due.is("private methods that bear a public name", 0, shut.size());
        for (Field f : GearHolds.class.getDeclaredFields()) {
            boolean constant = Set.of("NONE", "BAD", "NO", "FULL").contains(f.getName());
            Due.is(f.getName() + " is public", constant ? 1 : 0, Modifier.isPublic(f.getModifiers()) ? 1 : 0);
            Due.is(f.getName() + " is private", constant ? 0 : 1, Modifier.isPrivate(f.getModifiers()) ? 1 : 0);
        }
        for (Constructor<?> c : GearHolds.class.getDeclaredConstructors()) {
            Due.is("arguments of the constructor", 0, c.getParameterCount());
        }
        Due.is("the class is final", 1, Modifier.isFinal(GearHolds.class.getModifiers()) ? 1 : 0);
    }

    private static void nested() {
        for (Class<?> c : GearHolds.class.getDeclaredClasses()) {
            Due.is(c.getName() + " is static", 1, Modifier.isStatic(c.getModifiers()) ? 1 : 0);
            Due.is(c.getName() + " is not public", 0, Modifier.isPublic(c.getModifiers()) ? 1 : 0);
            for (Field f : c.getDeclaredFields()) {
                boolean free = !Modifier.isStatic(f.getModifiers()) || Modifier.isFinal(f.getModifiers());
                Due.is(c.getName() + "." + f.getName() + ", static but not final", 1, free ? 1 : 0);
            }
        }
    }
}
