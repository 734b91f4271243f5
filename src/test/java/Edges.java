import java.lang.reflect.InvocationTargetException;
import java.lang.reflect.Method;
import java.util.ArrayList;
import java.util.Arrays;
import java.util.Comparator;
import java.util.List;

/** Tests that bear Says: methods promiseN_.., of words of Promise N or of the Terms that it uses. */
final class Edges {
    static final List<Class<?>> CLASSES = List.of(EdgeTextTest.class, EdgeDayTest.class, EdgeFastTest.class,
        EdgeUnsureTest.class, EdgeActTest.class);

    private Edges() {
    }

    static List<Method> of(Class<?> tests) {
        List<Method> all = new ArrayList<>();
        for (Method m : tests.getDeclaredMethods()) {
            if (m.isAnnotationPresent(Says.class)) {
                all.add(m);
            }
        }
        all.sort(Comparator.comparing(Method::getName));
        return all;
    }

    /** A test that looks at nothing, or that something is thrown in, is as wrong as one with a wrong answer. */
    static void run(Class<?> tests) {
        Due due = new Due();
        for (Method m : of(tests)) {
            due.part(m.getName() + " " + Arrays.toString(m.getAnnotation(Says.class).value()));
            int before = due.looked();
            try {
                m.setAccessible(true);
                m.invoke(null, due);
            } catch (InvocationTargetException | IllegalAccessException | RuntimeException e) {
                due.fail(String.valueOf(e.getCause() == null ? e : e.getCause()));
            }
            if (due.looked() == before) {
                due.fail("looks at nothing");
            }
        }
        due.end(tests.getSimpleName() + ", " + of(tests).size() + " tests");
    }
}
