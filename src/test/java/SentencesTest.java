import java.io.IOException;
import java.lang.reflect.Method;
import java.nio.file.Files;
import java.nio.file.Path;
import java.util.List;
import java.util.Set;
import java.util.TreeSet;

/**
 * For each sentence of the document that names a boundary case, a test of its own.
 * The class has to hold them, and the model, too. Run it from the project's root.
 */
public final class SentencesTest {
    private static final Path DOCUMENT = Path.of("..", "shared", "DOC.md");
    private static final int PROMISES = 20;

    private static int wrong = 0;

    private static void complain(String what) {
        wrong++;
        System.out.println(what);
    }

    public static void main(String[] args) throws IOException {
        boolean isThere = Files.isReadable(DOCUMENT);
        String document = isThere ? Files.readString(DOCUMENT) : "";
        List<Method> all = Sentences.all();
        Set<String> names = new TreeSet<>();
        Set<String> headings = new TreeSet<>();
        for (Method m : all) {
            Told told = m.getAnnotation(Told.class);
            headings.add(told.in());
            if (!names.add(m.getName())) complain(m.getName() + " stands twice");
            if (isThere && !under(document, told.in()).contains(plain(told.says()))) {
                complain(m.getName() + ": the document does not say so under " + told.in() + ": " + told.says());
            }
            hold(m, "the class", OfClass::new);
            hold(m, "the model", ShapeReportsModel::new);
        }
        for (int n = 1; n <= PROMISES; n++) {
            if (!headings.contains("Promise " + n)) complain("no test is for a sentence of Promise " + n);
        }
        System.out.println(wrong == 0 ? all.size() + " tests of sentences hold" : wrong + " do not hold");
        if (wrong != 0) System.exit(1);
    }

    private static void hold(Method m, String who, Bench bench) {
        String failure = Sentences.failure(m, bench);
        Told told = m.getAnnotation(Told.class);
        if (failure != null) {
            complain(m.getName() + ", " + who + ": " + failure + "\n  " + told.in() + ": " + told.says());
        }
    }

    /** What stands under a heading, up to the next one. */
    private static String under(String document, String heading) {
        for (String part : document.split("(?m)^## ")) {
            if (part.startsWith(heading + ":") || part.startsWith(heading + "\n")) return plain(part);
        }
        return "";
    }

    private static String plain(String text) {
        return text.replaceAll("\\s+", " ").trim();
    }
}
