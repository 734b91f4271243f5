import java.lang.reflect.Method;

/** No promise is without a test of its edges. */
public final class EveryPromiseTest {
    public static void main(String[] args) {
        Due due = new Due();
        due.part("a test named by it");
        for (int promise = 1; promise <= 59; promise++) {
            due.yes("promise " + promise, has("promise" + promise + "_"));
        }
        due.end("EveryPromiseTest");
    }

    private static boolean has(String name) {
        for (Class<?> tests : Edges.CLASSES) {
            for (Method m : Edges.of(tests)) {
                if (m.getName().startsWith(name)) {
                    return true;
                }
            }
        }
        return false;
    }
}
