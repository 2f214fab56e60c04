import java.lang.reflect.Method;
import java.util.Map;
import java.util.TreeMap;

/** Each promise has at least one test of its own among those for the document's boundaries. */
public final class EdgeCoverTest {
    private static final int PROMISES = 39;
    private static final Class<?>[] TESTS = {EdgeTextTest.class, EdgeHousesTest.class, EdgeWeeksTest.class,
        EdgeChillsTest.class, EdgeSeenTest.class, EdgeSheetsTest.class, EdgeFullTest.class};

    public static void main(String[] args) {
        Check check = new Check();
        Map<Integer, Integer> count = new TreeMap<>();
        for (Class<?> tests : TESTS) {
            for (Method test : Edges.testsOf(tests)) {
                for (int promise : test.getAnnotation(Says.class).promise()) {
                    check.due(test.getName() + " is for a promise", promise >= 1 && promise <= PROMISES ? 1 : 0, 1);
                    count.merge(promise, 1, Integer::sum);
                }
            }
        }
        check.due("promises that have a test " + count, count.size(), PROMISES);
        System.out.println("tests by promise: " + count);
        check.end();
    }
}
