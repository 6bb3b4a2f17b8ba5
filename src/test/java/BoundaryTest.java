import java.lang.reflect.InvocationTargetException;
import java.lang.reflect.Method;
import java.util.Arrays;
import java.util.Comparator;

/**
 * The document's boundary cases, each a test of its own: the methods named promiseNN.. of these
 * classes, NN being the promise. A promise without one is wrong too.
 */
public final class BoundaryTest {
    private static final Class<?>[] ALL = {
        TextBoundaries.class, FaultBoundaries.class, NowBoundaries.class, SeasonBoundaries.class,
        GraftBoundaries.class, PruneBoundaries.class, FruitBoundaries.class, ExplainBoundaries.class,
        ActBoundaries.class, ToldBoundaries.class,
    };

    public static void main(String[] args) {
        Checks c = new Checks("BoundaryTest");
        int[] tests = new int[51];
        for (Class<?> all : ALL) {
            Method[] methods = all.getDeclaredMethods();
            Arrays.sort(methods, Comparator.comparing(Method::getName));
            for (Method m : methods) {
                if (m.getName().matches("promise[0-9]{2}.+")) {
                    tests[Integer.parseInt(m.getName().substring(7, 9))]++;
                    c.part(m.getName(), () -> call(m, c));
                }
            }
        }
        for (int promise = 1; promise <= 50; promise++) {
            c.is("promise " + promise + " has a test", tests[promise] > 0, true);
        }
        System.out.println("BoundaryTest: " + Arrays.stream(tests).sum() + " boundary cases");
        c.end();
    }

    private static void call(Method m, Checks c) {
        try {
            m.invoke(null, c);
        } catch (InvocationTargetException e) {
            throw new IllegalStateException(e.getCause());
        } catch (IllegalAccessException e) {
            throw new IllegalStateException(e);
        }
    }
}
