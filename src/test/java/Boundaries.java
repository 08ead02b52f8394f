import java.lang.reflect.InvocationTargetException;
import java.lang.reflect.Method;
import java.util.ArrayList;
import java.util.Comparator;
import java.util.List;
import java.util.regex.Pattern;

/** Finds the tests that bear the annotation Boundary, runs them, and tells each by its promise and sentence. */
final class Boundaries {
    static final Pattern CODE =
            Pattern.compile("INVALID_ARGUMENT|NOT_POSSIBLE|CAPACITY_EXCEEDED|NOT_FOUND|OVERFLOW");

    private Boundaries() {
    }

    /** All classes with such tests; BoundaryCoverageTest asks them for what they hold. */
    static List<Class<?>> all() {
        return List.of(BoundaryGameTest.class, BoundarySetsTest.class, BoundaryTextTest.class,
                BoundaryChangeTest.class, BoundaryLookTest.class, BoundarySolveTest.class);
    }

    static List<Method> testsOf(Class<?> tests) {
        List<Method> found = new ArrayList<>();
        for (Method method : tests.getDeclaredMethods()) {
            if (method.isAnnotationPresent(Boundary.class)) {
                found.add(method);
            }
        }
        found.sort(Comparator.comparingInt((Method m) -> m.getAnnotation(Boundary.class).promise())
                .thenComparing(Method::getName));
        return found;
    }

    static String nameOf(Method test) {
        Boundary boundary = test.getAnnotation(Boundary.class);
        String place = boundary.promise() == Boundary.DESCRIPTION ? "description" : "promise " + boundary.promise();
        return place + ", " + test.getName() + ": " + boundary.sentence();
    }

    private static boolean namesCode(Method test) {
        return CODE.matcher(test.getAnnotation(Boundary.class).sentence()).find();
    }

    static void run(Class<?> tests) throws IllegalAccessException, InvocationTargetException {
        for (Method test : testsOf(tests)) {
            int asked = Check.asked();
            int wrong = Check.wrong();
            int refused = Refused.asked();
            test.invoke(null);
            Check.holds(nameOf(test) + " asks something", Check.asked() > asked);
            Check.holds(nameOf(test) + " holds that a refused call changes nothing",
                    Refused.asked() > refused || !namesCode(test));
            System.out.println((Check.wrong() == wrong ? "  ok      " : "  FAILED  ") + nameOf(test));
        }
        Check.end();
    }
}
