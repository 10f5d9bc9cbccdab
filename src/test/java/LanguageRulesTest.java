import java.io.IOException;
import java.lang.reflect.Constructor;
import java.lang.reflect.Field;
import java.lang.reflect.Method;
import java.lang.reflect.Modifier;
import java.nio.file.Files;
import java.nio.file.Path;
import java.util.ArrayList;
import java.util.List;
import java.util.Map;
import java.util.Set;
import java.util.TreeSet;
import java.util.regex.Matcher;
import java.util.regex.Pattern;
import java.util.stream.Stream;

/** What of LANGUAGE.md can be seen from the source's text and from the compiled class. Run it from the project's root. */
public final class LanguageRulesTest {
    private static final Path SOURCE = Path.of("src", "main", "java", "ShapeReports.java");
    private static final Set<String> METHODS = Set.of("say", "wipe", "item", "read", "fault", "written", "field",
        "group", "length", "put", "come", "event", "next", "last", "want", "made", "count", "image", "restore");
    private static final Set<String> CONSTANTS =
        Set.of("UNKNOWN", "OUTSIDE", "STATE", "FULL", "NO", "NONE", "FAULT");
    private static final String[] FORBIDDEN =
        {"throw", "throws", "try", "catch", "synchronized", "assert", "package", "\\w+Exact"};
    private static final Set<String> IMPORTS =
        Set.of("java.util.ArrayList", "java.util.Arrays", "java.util.Iterator", "java.util.List");
    private static final Map<String, Class<?>> OF_NUMBERS =
        Map.of("Math", Math.class, "Integer", Integer.class, "Long", Long.class);
    private static final Set<String> LIBRARY = Set.of("System.arraycopy", "Arrays.copyOf", "Arrays.copyOfRange",
        "Arrays.fill", "List.of");
    // The rules say "some" twelve classes, twenty fields, sixty lines.
    private static final int MOST_LINES = 66, MOST_PARAMETERS = 7, MOST_CLASSES = 13, MOST_FIELDS = 22;

    private static int wrong = 0;

    private static void check(boolean holds, int rule, String what) {
        if (!holds) {
            wrong++;
            System.out.println("rule " + rule + ": " + what);
        }
    }

    public static void main(String[] args) throws IOException {
        String text = Files.readString(SOURCE).replaceAll("(?s)/\\*.*?\\*/", "").replaceAll("//[^\n]*", "");
        face();
        classes();
        words(text);
        library(text);
        methodLengths();
        System.out.println(wrong == 0 ? "the source keeps to the rules" : wrong + " rules are broken");
        if (wrong != 0) System.exit(1);
    }

    private static void face() {
        Class<?> c = ShapeReports.class;
        check(c.getModifiers() == (Modifier.PUBLIC | Modifier.FINAL), 1, "the class is not public and final alone");
        Set<String> open = new TreeSet<>();
        for (Method m : c.getDeclaredMethods()) {
            if (m.isSynthetic()) continue;
            if (Modifier.isPrivate(m.getModifiers())) {
                check(!METHODS.contains(m.getName()), 1, "private " + m.getName());
            } else {
                check(open.add(m.getName()), 1, m.getName() + " stands twice");
                check(m.getModifiers() == Modifier.PUBLIC, 1, m.getName() + " is not just public");
                check(m.getReturnType() == int.class, 1, m.getName() + " answers no int");
            }
        }
        check(open.equals(new TreeSet<>(METHODS)), 1, "the methods are " + open);
        Set<String> constants = new TreeSet<>();
        for (Field f : c.getDeclaredFields()) {
            if (!Modifier.isPrivate(f.getModifiers()) && !f.isSynthetic()) constants.add(f.getName());
        }
        check(constants.equals(new TreeSet<>(CONSTANTS)), 1, "the constants are " + constants);
        for (Constructor<?> k : c.getDeclaredConstructors()) {
            check(Modifier.isPublic(k.getModifiers()) && k.getParameterCount() == 0, 1, "constructor " + k);
        }
    }

    private static void classes() {
        List<Class<?>> all = new ArrayList<>(List.of(ShapeReports.class.getDeclaredClasses()));
        for (Class<?> c : all) {
            check(Modifier.isStatic(c.getModifiers()), 2, c + " is not static");
            for (Method m : c.getDeclaredMethods()) {
                boolean isPrivate = Modifier.isPrivate(m.getModifiers());
                check(!isPrivate || !METHODS.contains(m.getName()), 1, c + " has a private method " + m.getName());
            }
        }
        all.add(ShapeReports.class);
        check(all.size() <= MOST_CLASSES, 11, all.size() + " classes");
        for (Class<?> c : all) {
            int fields = 0;
            for (Field f : c.getDeclaredFields()) {
                boolean isStatic = Modifier.isStatic(f.getModifiers());
                check(!isStatic || Modifier.isFinal(f.getModifiers()), 5, f + " is static and not final");
                if (!isStatic) fields++;
            }
            check(fields <= MOST_FIELDS, 11, c + " has " + fields + " fields");
            for (Method m : c.getDeclaredMethods()) {
                check(m.getParameterCount() <= MOST_PARAMETERS, 11, m + " has too many parameters");
            }
        }
    }

    private static void words(String text) {
        for (String word : FORBIDDEN) {
            check(!Pattern.compile("\\b" + word + "\\b").matcher(text).find(), 6, "'" + word + "' stands in the source");
        }
        String withoutCases = text.replaceAll("(case [^;:{}>]*|default\\s*)->", "");
        check(!withoutCases.contains("->") && !text.contains("::"), 2, "a lambda or a method reference");
        check(!Pattern.compile("\"\\s*\\+|\\+\\s*\"").matcher(text).find(), 10, "texts joined by +");
        check(text.chars().allMatch(c -> c < 128), 4, "a sign above 127");
    }

    private static void library(String text) {
        Matcher imports = Pattern.compile("import ([\\w.* ]+);").matcher(text);
        while (imports.find()) check(IMPORTS.contains(imports.group(1)), 4, imports.group());
        Matcher m = Pattern.compile("\\b(Math|Integer|Long|System|Arrays|List|String|Character)\\.(\\w+)").matcher(text);
        while (m.find()) {
            boolean ofNumbers = isOverNumbers(OF_NUMBERS.get(m.group(1)), m.group(2));
            boolean imported = m.start() > 0 && text.charAt(m.start() - 1) == '.';
            check(ofNumbers || imported || LIBRARY.contains(m.group()), 4, m.group());
        }
    }

    /** Whether it is a constant number of the class, or a static function over int and long; the *Exact are forbidden words. */
    private static boolean isOverNumbers(Class<?> c, String name) {
        if (c == null) return false;
        for (Field f : c.getFields()) {
            if (f.getName().equals(name) && isNumber(f.getType())) return true;
        }
        for (Method m : c.getMethods()) {
            boolean isTold = m.getName().equals(name) && Modifier.isStatic(m.getModifiers()) && m.getParameterCount() > 0;
            if (isTold && Stream.of(m.getParameterTypes()).allMatch(LanguageRulesTest::isNumber)) return true;
        }
        return false;
    }

    private static boolean isNumber(Class<?> type) {
        return type == int.class || type == long.class;
    }

    private static void methodLengths() throws IOException {
        int begun = 0;
        String head = "";
        int number = 0;
        for (String line : Files.readAllLines(SOURCE)) {
            number++;
            if (line.matches(" {4}( {4})?[a-zA-Z].*\\) \\{")) {
                begun = number;
                head = line.trim();
            } else if (line.matches(" {4}( {4})?\\}") && begun > 0) {
                check(number - begun < MOST_LINES, 11, head + " has " + (number - begun + 1) + " lines");
                begun = 0;
            }
        }
    }
}
