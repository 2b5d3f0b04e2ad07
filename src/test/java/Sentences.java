import java.io.IOException;
import java.lang.reflect.InvocationTargetException;
import java.lang.reflect.Method;
import java.lang.reflect.Modifier;
import java.nio.file.Files;
import java.nio.file.Path;
import java.util.Arrays;
import java.util.Comparator;

/**
 * Runs the edge tests: each is a method whose name begins with the place of its sentence in the document
 * (promise02, termI, termI_fault3, limit, face) and whose first line says the sentence itself.
 */
final class Sentences {
    private static final Path DOCUMENT = Path.of("../shared/DOC.md");
    private static final String PLACE = "(promise\\d\\d|term[IV]+|limit|face)_\\w+";

    private Sentences() {
    }

    static Method[] of(Class<?> tests) {
        Method[] named = Arrays.stream(tests.getDeclaredMethods())
            .filter(method -> method.getName().matches(PLACE))
            .toArray(Method[]::new);
        Arrays.sort(named, Comparator.comparing(Method::getName));
        return named;
    }

    static void run(Class<?> tests) {
        for (Method method : of(tests)) {
            Check.begin(method.getName());
            Check.isTrue("it takes nothing", Modifier.isStatic(method.getModifiers()) && method.getParameterCount() == 0);
            invoke(method);
            Check.isTrue("it says its sentence", Check.isSentenceSaid());
        }
        Check.begin("");
        Check.finish(tests.getName());
    }

    private static void invoke(Method method) {
        try {
            method.setAccessible(true);
            method.invoke(null);
        } catch (InvocationTargetException thrown) {
            thrown.getCause().printStackTrace(System.out);
            Check.isTrue("nothing is thrown", false);
        } catch (IllegalAccessException closed) {
            Check.isTrue("it can be called", false);
        }
    }

    /** The sentence must stand in the document word for word, so that one can find it there. */
    static boolean isInDocument(String sentence) {
        if (!Files.isReadable(DOCUMENT)) {
            return true;
        }
        try {
            return Files.readString(DOCUMENT).contains(sentence);
        } catch (IOException unread) {
            return true;
        }
    }
}
