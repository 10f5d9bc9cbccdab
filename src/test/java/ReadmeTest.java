import java.io.IOException;
import java.nio.file.DirectoryStream;
import java.nio.file.Files;
import java.nio.file.Path;
import java.util.HashMap;
import java.util.List;
import java.util.Map;
import java.util.regex.Matcher;
import java.util.regex.Pattern;

/** What README.md says is so: its examples answer what stands behind them, and the files that it names are there. */
public final class ReadmeTest {
    private static final Path README = Path.of("README.md");
    private static final Path TESTS = Path.of("src", "test", "java");
    private static final Pattern MADE = Pattern.compile("ShapeReports (\\w+) = new ShapeReports\\(\\);");
    private static final Pattern CALLED =
        Pattern.compile("(\\w+)\\.(\\w+)\\(([-\\d, ]*)\\); +// (-?\\d+|[A-Z]+): .+");
    private static final Pattern NAMED = Pattern.compile("`([^`\n]+)`");

    private static int wrong = 0;

    private ReadmeTest() {}

    private static void check(boolean holds, String what) {
        if (!holds) {
            wrong++;
            System.out.println("README.md: " + what);
        }
    }

    public static void main(String[] args) throws IOException, ReflectiveOperationException {
        int calls = examples(Files.readAllLines(README));
        check(calls > 0, "there is no example");
        String text = Files.readString(README);
        namedFiles(text.replaceAll("(?s)```.*?```", ""));
        testsAreNamed(text);
        System.out.println(wrong == 0 ? "README.md holds, with " + calls + " calls" : wrong + " things are not so");
        if (wrong != 0) System.exit(1);
    }

    /** Runs the lines of the examples: how many calls there were. */
    private static int examples(List<String> lines) throws ReflectiveOperationException {
        Map<String, ShapeReports> made = new HashMap<>();
        boolean isExample = false;
        int calls = 0;
        for (String line : lines) {
            if (line.startsWith("```")) {
                isExample = line.equals("```java");
            } else if (isExample) {
                Matcher maker = MADE.matcher(line);
                Matcher caller = CALLED.matcher(line);
                if (maker.matches()) {
                    made.put(maker.group(1), new ShapeReports());
                } else if (caller.matches() && made.containsKey(caller.group(1))) {
                    call(made.get(caller.group(1)), caller, line);
                    calls++;
                } else {
                    check(false, "not a call with its answer: " + line);
                }
            }
        }
        return calls;
    }

    private static void call(ShapeReports x, Matcher told, String line) throws ReflectiveOperationException {
        String[] numbers = told.group(3).isEmpty() ? new String[0] : told.group(3).split(", ");
        Class<?>[] types = new Class<?>[numbers.length];
        Object[] with = new Object[numbers.length];
        for (int i = 0; i < numbers.length; i++) {
            types[i] = int.class;
            with[i] = Integer.valueOf(numbers[i]);
        }
        Object got = ShapeReports.class.getMethod(told.group(2), types).invoke(x, with);
        check(got.equals(due(told.group(4))), "answered " + got + ": " + line);
    }

    private static int due(String told) throws ReflectiveOperationException {
        boolean isConstant = Character.isLetter(told.charAt(0));
        return isConstant ? ShapeReports.class.getField(told).getInt(null) : Integer.parseInt(told);
    }

    /** A name with a slash is that of a file from the project's root. */
    private static void namedFiles(String text) {
        Matcher names = NAMED.matcher(text);
        while (names.find()) {
            String name = names.group(1);
            if (name.contains("/")) check(Files.exists(Path.of(name)), "there is no " + name);
        }
    }

    private static void testsAreNamed(String text) throws IOException {
        try (DirectoryStream<Path> files = Files.newDirectoryStream(TESTS, "*Test.java")) {
            for (Path file : files) {
                String name = "src/test/java/" + file.getFileName();
                check(text.contains("`" + name + "`"), name + " is not named");
            }
        }
    }
}
