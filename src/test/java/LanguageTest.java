import java.io.IOException;
import java.lang.reflect.Constructor;
import java.lang.reflect.Field;
import java.lang.reflect.Method;
import java.lang.reflect.Modifier;
import java.nio.file.Files;
import java.nio.file.Path;
import java.util.Map;
import java.util.Set;
import java.util.TreeMap;
import java.util.TreeSet;
import java.util.regex.Matcher;
import java.util.regex.Pattern;

/** What LANGUAGE.md rules out, as far as words of the source or the class's face show it. */
public final class LanguageTest {
    private static final String[] RULED_OUT = {"\\bthrow\\b", "\\btry\\b", "\\bcatch\\b", "\\bsynchronized\\b",
        "\\bassert\\b", "->", "::", "\\bimport\\b", "\\bpackage\\b", "\\bprotected\\b", "\\bsuper\\b",
        "\\bObject\\b", "\\bwhile \\(true\\)", "Exact\\b", "\\bSystem\\.(?!arraycopy)", "\"\\s*\\+", "\\+\\s*\""};
    private static final int MOST_DEEP = 8;

    public static void main(String[] args) throws IOException {
        String source = Files.readString(Path.of("src/main/java/GearHolds.java"));
        String code = source.replaceAll("(?s)/\\*.*?\\*/", "").replaceAll("//[^\n]*", "");
        for (String word : RULED_OUT) {
            Due.is("'" + word + "' in the source", 0, code.split(word, -1).length - 1);
        }
        for (int i = 0; i < source.length(); i++) {
            Due.is("sign at " + i, 1, source.charAt(i) < 128 ? 1 : 0);
        }
        face();
        nested();
        String bare = code.replaceAll("\"[^\"]*\"|'[^']*'", "0");
        methods(bare);
        divisors(bare);
        Due.end();
    }

    private static void face() {
        Set<String> open = new TreeSet<>();
        Set<String> shut = new TreeSet<>();
        for (Method m : GearHolds.class.getDeclaredMethods()) {
            if (!m.isSynthetic()) {
                (Modifier.isPublic(m.getModifiers()) ? open : shut).add(m.getName());
                Due.is(m.getName() + " is public or private", 1,
                        (m.getModifiers() & (Modifier.PUBLIC | Modifier.PRIVATE)) != 0 ? 1 : 0);
            }
        }
        Set<String> due = new TreeSet<>(Set.of("gear", "fails", "trues", "up", "down", "slope", "driver",
                "sets", "of", "clutch", "ties", "simple", "way", "over", "worst", "want", "drives", "puts",
                "state", "type", "clear", "reads", "why", "back", "told", "digest"));
        Due.is("the public methods " + open, 1, open.equals(due) ? 1 : 0);
        shut.retainAll(due);
        Due.is("private methods that bear a public name", 0, shut.size());
        for (Field f : GearHolds.class.getDeclaredFields()) {
            boolean constant = Set.of("NONE", "BAD", "NO", "FULL").contains(f.getName());
            Due.is(f.getName() + " is public", constant ? 1 : 0, Modifier.isPublic(f.getModifiers()) ? 1 : 0);
            Due.is(f.getName() + " is private", constant ? 0 : 1, Modifier.isPrivate(f.getModifiers()) ? 1 : 0);
        }
        for (Constructor<?> c : GearHolds.class.getDeclaredConstructors()) {
            Due.is("arguments of the constructor", 0, c.getParameterCount());
        }
        Due.is("the class is final", 1, Modifier.isFinal(GearHolds.class.getModifiers()) ? 1 : 0);
    }

    private static void nested() {
        Due.is("classes", 1, GearHolds.class.getDeclaredClasses().length < 12 ? 1 : 0);
        fieldsAtMostTwenty(GearHolds.class);
        for (Class<?> c : GearHolds.class.getDeclaredClasses()) {
            fieldsAtMostTwenty(c);
            Due.is(c.getName() + " is static", 1, Modifier.isStatic(c.getModifiers()) ? 1 : 0);
            Due.is(c.getName() + " is not public", 0, Modifier.isPublic(c.getModifiers()) ? 1 : 0);
            for (Field f : c.getDeclaredFields()) {
                boolean free = !Modifier.isStatic(f.getModifiers()) || Modifier.isFinal(f.getModifiers());
                Due.is(c.getName() + "." + f.getName() + ", static but not final", 1, free ? 1 : 0);
            }
        }
    }

    /** Rule 7: what divides is a constant, or was made 1 at least. */
    private static void divisors(String code) {
        Matcher divisor = Pattern.compile("[/%]=? *([^ ;,)]+)").matcher(code);
        int found = 0;
        while (divisor.find()) {
            String name = divisor.group(1);
            boolean safe = name.matches("[A-Z_]+|[1-9][0-9]*") || code.contains("int " + name + " = Math.max(1, ");
            Due.is("the divisor " + name + " is looked at", 1, safe ? 1 : 0);
            found++;
        }
        Due.is("divisors were found", 1, found >= 4 ? 1 : 0);
    }

    private static void fieldsAtMostTwenty(Class<?> c) {
        int fields = 0;
        for (Field f : c.getDeclaredFields()) {
            fields += Modifier.isStatic(f.getModifiers()) ? 0 : 1;
        }
        Due.is(c.getName() + " has at most twenty fields", 1, fields <= 20 ? 1 : 0);
    }

    /** Rules 8 and 11: how long each method is, how deep its calls go, the library's own counted. */
    private static void methods(String code) {
        Map<String, Set<String>> calls = new TreeMap<>();
        Matcher head = Pattern.compile("(?m)^ +(?:(?:public|private|static) )*[\\w\\[\\]]+ (\\w+)\\(([^)]*)\\) \\{$")
                .matcher(code);
        while (head.find()) {
            String body = body(code, head.end());
            String name = head.group(1);
            Due.is(name + " has at most sixty lines", 1, body.split("\n").length <= 60 ? 1 : 0);
            Due.is(name + " takes at most seven", 1, head.group(2).split(",").length <= 7 ? 1 : 0);
            calls.computeIfAbsent(name, unused -> new TreeSet<>()).addAll(called(body));
        }
        Due.is("methods were found", 1, calls.size() > 60 ? 1 : 0);
        for (String name : calls.keySet()) {
            Due.is(name + " calls at most eight deep", 1, deep(calls, name, 0) <= MOST_DEEP ? 1 : 0);
        }
    }

    /** What stands up to the brace that closes the one that ends here. */
    private static String body(String code, int from) {
        int open = 1;
        int at = from;
        while (at < code.length() && open > 0) {
            char sign = code.charAt(at);
            open += sign == '{' ? 1 : sign == '}' ? -1 : 0;
            at++;
        }
        return code.substring(from, at);
    }

    private static Set<String> called(String body) {
        Set<String> names = new TreeSet<>();
        Matcher call = Pattern.compile("\\b(\\w+)\\(").matcher(body);
        while (call.find()) {
            names.add(call.group(1));
        }
        names.removeAll(Set.of("if", "for", "while", "switch", "return"));
        return names;
    }

    /** One more than is allowed, once it is deeper: so calls that go round end, too. */
    private static int deep(Map<String, Set<String>> calls, String name, int above) {
        int most = 0;
        if (above < MOST_DEEP) {
            for (String next : calls.getOrDefault(name, Set.of())) {
                most = Math.max(most, deep(calls, next, above + 1));
            }
        }
        return 1 + most;
    }
}
