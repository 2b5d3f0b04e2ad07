import java.lang.reflect.Method;
import java.util.Set;
import java.util.TreeSet;

/** Each promise, each term and the limit of calls has tests of its own for its sentences, each found by its name. */
public final class EveryPromiseTest {
    private static final Class<?>[] EDGES = { TapeEdgesTest.class, PostEdgesTest.class, FaultEdgesTest.class,
        OneThingEdgesTest.class, AllThingsEdgesTest.class, AheadEdgesTest.class, RunEdgesTest.class };
    private static final int PROMISES = 34;
    /** Term IV's sentences are those of promises 21 to 27, and are told there. */
    private static final String[] OTHERS = { "termI", "termII", "termIII", "termV", "limit", "face" };

    public static void main(String[] args) {
        Set<String> places = new TreeSet<>();
        Set<String> names = new TreeSet<>();
        for (Class<?> edges : EDGES) {
            for (Method method : Sentences.of(edges)) {
                places.add(method.getName().substring(0, method.getName().indexOf('_')));
                Check.isTrue(method.getName() + " is found in one place", names.add(method.getName()));
            }
        }
        for (int promise = 1; promise <= PROMISES; promise++) {
            String place = String.format("promise%02d", promise);
            Check.isTrue(place + " has a test", places.contains(place));
        }
        for (String other : OTHERS) {
            Check.isTrue(other + " has a test", places.contains(other));
        }
        Check.finish("EveryPromiseTest");
    }
}
