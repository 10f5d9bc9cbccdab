import java.io.ByteArrayOutputStream;
import java.io.IOException;
import java.io.OutputStream;
import java.io.StringWriter;
import java.lang.reflect.Constructor;
import java.lang.reflect.Method;
import java.net.URI;
import java.nio.file.Files;
import java.nio.file.Path;
import java.util.ArrayList;
import java.util.HashMap;
import java.util.List;
import java.util.Map;
import java.util.Set;
import java.util.TreeMap;
import java.util.TreeSet;
import java.util.stream.Collectors;
import javax.tools.FileObject;
import javax.tools.ForwardingJavaFileManager;
import javax.tools.JavaCompiler;
import javax.tools.JavaFileManager;
import javax.tools.JavaFileObject;
import javax.tools.SimpleJavaFileObject;
import javax.tools.ToolProvider;

/**
 * A test of the tests: each test of a sentence fails with a model that breaks this sentence.
 * The class itself has no part in it. Run it from the project's root.
 */
public final class BrokenModelsTest {
    private static final String MODEL = "ShapeReportsModel";
    private static final Path SOURCE = Path.of("src", "test", "java", MODEL + ".java");

    // One for each thread, since none is told to be safe for several.
    private static final ThreadLocal<JavaFileManager> FILES = ThreadLocal.withInitial(
        () -> ToolProvider.getSystemJavaCompiler().getStandardFileManager(null, null, null));

    private BrokenModelsTest() {}

    public static void main(String[] args) throws IOException {
        String source = Files.readString(SOURCE);
        Map<String, Method> sentences = new TreeMap<>();
        for (Method m : Sentences.all()) sentences.put(m.getName(), m);
        List<BrokenModels.Broken> all = all();
        List<String> wrong = new ArrayList<>(all.parallelStream().flatMap(b -> unnoticed(b, source, sentences).stream())
            .collect(Collectors.toList()));
        wrong.addAll(failuresOfTheModelAsItIs(source, sentences));
        Set<String> proved = new TreeSet<>();
        for (BrokenModels.Broken b : all) proved.addAll(b.tests());
        for (String name : sentences.keySet()) {
            if (!proved.contains(name)) wrong.add("no broken model is there for " + name);
        }
        wrong.forEach(System.out::println);
        System.out.println(wrong.isEmpty() ? "all " + all.size() + " broken models were noticed"
            : wrong.size() + " complaints");
        if (!wrong.isEmpty()) System.exit(1);
    }

    private static List<BrokenModels.Broken> all() {
        List<BrokenModels.Broken> all = new ArrayList<>();
        all.addAll(BrokenModels.refusals());
        all.addAll(BrokenModels.items());
        all.addAll(BrokenModels.shapes());
        all.addAll(BrokenModels.faults());
        all.addAll(BrokenModels.newObjects());
        all.addAll(BrokenModels.programs());
        all.addAll(BrokenModels.words());
        all.addAll(BrokenModels.fields());
        all.addAll(BrokenModels.letters());
        all.addAll(BrokenModels.events());
        all.addAll(BrokenModels.lettersToTheDevice());
        all.addAll(BrokenModels.countsAndImages());
        return all;
    }

    /** Without this, a fault of the loading here would look like one that the tests have noticed. */
    private static List<String> failuresOfTheModelAsItIs(String source, Map<String, Method> sentences) {
        Bench bench = benchOf(new Loader(compile(source)));
        List<String> complaints = new ArrayList<>();
        for (Method sentence : sentences.values()) {
            String failure = Sentences.failure(sentence, bench);
            if (failure != null) complaints.add(sentence.getName() + " fails with the model as it is: " + failure);
        }
        return complaints;
    }

    /** Complaints about tests that hold though they should fail. */
    private static List<String> unnoticed(BrokenModels.Broken broken, String source, Map<String, Method> sentences) {
        int at = source.indexOf(broken.text());
        if (at < 0 || source.indexOf(broken.text(), at + 1) >= 0) {
            return List.of("this does not stand just once in the model: " + broken.text());
        }
        Map<String, Compiled> classes =
            compile(source.substring(0, at) + broken.instead() + source.substring(at + broken.text().length()));
        if (classes.isEmpty()) return List.of("this does not compile in the model: " + broken.instead());
        Bench bench = benchOf(new Loader(classes));
        List<String> complaints = new ArrayList<>();
        for (String name : broken.tests()) {
            Method sentence = sentences.get(name);
            if (sentence == null) complaints.add("there is no test " + name);
            else if (Sentences.failure(sentence, bench) == null) {
                complaints.add(name + " holds with this in the model: " + broken.instead());
            }
        }
        return complaints;
    }

    private static Bench benchOf(Loader loader) {
        try {
            Constructor<?> maker = loader.loadClass(MODEL).getDeclaredConstructor();
            return () -> {
                try {
                    return (Face) maker.newInstance();
                } catch (ReflectiveOperationException e) {
                    throw new IllegalStateException(e);
                }
            };
        } catch (ReflectiveOperationException e) {
            throw new IllegalStateException(e);
        }
    }

    /** The classes by their names; none, if the source does not compile. */
    private static Map<String, Compiled> compile(String source) {
        JavaCompiler compiler = ToolProvider.getSystemJavaCompiler();
        Map<String, Compiled> classes = new HashMap<>();
        JavaFileManager files = new ForwardingJavaFileManager<JavaFileManager>(FILES.get()) {
            @Override
            public JavaFileObject getJavaFileForOutput(Location location, String name, JavaFileObject.Kind kind,
                    FileObject sibling) {
                return classes.computeIfAbsent(name, Compiled::new);
            }
        };
        List<String> options = List.of("-proc:none", "-classpath", System.getProperty("java.class.path"));
        boolean done = compiler.getTask(new StringWriter(), files, problem -> {}, options, null,
            List.of(new Text(source))).call();
        return done ? classes : Map.of();
    }

    private static final class Text extends SimpleJavaFileObject {
        private final String text;

        Text(String text) {
            super(URI.create("string:///" + MODEL + ".java"), Kind.SOURCE);
            this.text = text;
        }

        @Override
        public CharSequence getCharContent(boolean ignoreEncodingErrors) {
            return text;
        }
    }

    private static final class Compiled extends SimpleJavaFileObject {
        private final ByteArrayOutputStream bytes = new ByteArrayOutputStream();

        Compiled(String name) {
            super(URI.create("bytes:///" + name + ".class"), Kind.CLASS);
        }

        @Override
        public OutputStream openOutputStream() {
            return bytes;
        }
    }

    /** Has the broken model's classes ahead of the model's own. */
    private static final class Loader extends ClassLoader {
        private final Map<String, Compiled> classes;

        Loader(Map<String, Compiled> classes) {
            super(BrokenModelsTest.class.getClassLoader());
            this.classes = classes;
        }

        @Override
        protected Class<?> loadClass(String name, boolean resolve) throws ClassNotFoundException {
            synchronized (getClassLoadingLock(name)) {
                Class<?> loaded = findLoadedClass(name);
                if (loaded != null) return loaded;
                Compiled own = classes.get(name);
                if (own == null) return super.loadClass(name, resolve);
                byte[] bytes = own.bytes.toByteArray();
                return defineClass(name, bytes, 0, bytes.length);
            }
        }
    }
}
