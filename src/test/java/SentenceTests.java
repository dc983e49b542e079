import java.lang.reflect.InvocationTargetException;
import java.lang.reflect.Method;
import java.lang.reflect.Modifier;

/** Runs the tests of the document's sentences, class by class. */
public final class SentenceTests {
    public static void main(String[] args) throws Exception {
        for (Class<?> part : Parts.ALL) {
            for (Method test : part.getDeclaredMethods()) {
                if (test.getAnnotation(Sentence.class) != null) run(test);
            }
        }
        Bench.due.end();
    }

    private static void run(Method test) throws IllegalAccessException {
        String name = test.getDeclaringClass().getName() + "." + test.getName();
        Bench.due.part(name);
        Bench.due.holds("is static", Modifier.isStatic(test.getModifiers()));
        test.setAccessible(true);
        try {
            test.invoke(null);
        } catch (InvocationTargetException thrown) {
            Bench.due.holds("threw " + thrown.getCause(), false);
        }
    }
}
