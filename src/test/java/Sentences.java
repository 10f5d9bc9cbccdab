import java.lang.reflect.InvocationTargetException;
import java.lang.reflect.Method;
import java.util.ArrayList;
import java.util.Comparator;
import java.util.List;

/** All tests of sentences, each a static method with the sentence that it is for. */
final class Sentences {
    private static final List<Class<?>> HOLDERS = List.of(RefusalSentences.class, ItemSentences.class,
        ShapeSentences.class, FaultSentences.class, ProgramSentences.class, FieldSentences.class,
        LetterSentences.class, DeviceSentences.class);

    private Sentences() {}

    static List<Method> all() {
        List<Method> found = new ArrayList<>();
        for (Class<?> holder : HOLDERS) {
            List<Method> of = new ArrayList<>();
            for (Method m : holder.getDeclaredMethods()) {
                if (m.isAnnotationPresent(Told.class)) of.add(m);
            }
            of.sort(Comparator.comparing(Method::getName));
            found.addAll(of);
        }
        return found;
    }

    /** What went wrong with objects of this bench; null: nothing did. */
    static String failure(Method sentence, Bench bench) {
        try {
            sentence.invoke(null, bench);
            return null;
        } catch (InvocationTargetException e) {
            Throwable cause = e.getCause();
            return cause instanceof NotAsDue ? cause.getMessage() : cause.toString();
        } catch (IllegalAccessException e) {
            return e.toString();
        }
    }
}
