import java.lang.reflect.InvocationTargetException;
import java.lang.reflect.Method;
import java.util.ArrayList;
import java.util.Comparator;
import java.util.List;

/** Runs every test of a class that bears an Edge, each by itself, and tells which of them fail. */
final class Edges {
    static final int MIN = Integer.MIN_VALUE;
    static final int MAX = Integer.MAX_VALUE;

    private Edges() {
    }

    /** Numbers that are too small and too large for least .. most, just so and by far. */
    static int[] outside(int least, int most) {
        return new int[] {MIN, least - 1, most + 1, MAX};
    }

    /** Ends with exit code 1 if a test fails, or if a promise from first to last has none. */
    static void run(Class<?> tests, int first, int last) {
        List<Method> edges = findEdges(tests);
        int failed = 0;
        for (Method edge : edges) {
            failed += holds(edge) ? 0 : 1;
        }
        for (int promise = first; promise <= last; promise++) {
            final int wanted = promise;
            if (edges.stream().noneMatch(e -> e.getAnnotation(Edge.class).promise() == wanted)) {
                System.out.println("promise " + promise + " has no test in " + tests.getName());
                failed++;
            }
        }
        System.out.println(edges.size() + " boundary cases, " + failed + " failed");
        if (failed != 0) {
            System.exit(1);
        }
    }

    private static List<Method> findEdges(Class<?> tests) {
        List<Method> edges = new ArrayList<>();
        for (Method method : tests.getDeclaredMethods()) {
            if (method.isAnnotationPresent(Edge.class)) {
                edges.add(method);
            }
        }
        edges.sort(Comparator.comparing((Method m) -> m.getAnnotation(Edge.class).promise())
                .thenComparing(Method::getName));
        return edges;
    }

    private static boolean holds(Method edge) {
        Edge says = edge.getAnnotation(Edge.class);
        String title = "promise " + says.promise() + ", " + says.of();
        Check check = new Check(title);
        try {
            edge.invoke(null, check);
        } catch (InvocationTargetException e) {
            System.out.println(title + ": threw " + e.getCause());
            return false;
        } catch (IllegalAccessException e) {
            System.out.println(title + ": can't be run");
            return false;
        }
        if (!check.wasAsked()) {
            System.out.println(title + ": asks nothing");
        }
        return check.holds();
    }
}
