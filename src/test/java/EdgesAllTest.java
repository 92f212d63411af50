import java.util.Map;
import java.util.TreeMap;

/** Each promise has tests of its edges, in the class that bears its number. */
public final class EdgesAllTest {
    private static final Class<?>[] CLASSES = {Edges01To05Test.class, Edges06To10Test.class, Edges11To24Test.class,
        Edges25To33Test.class, Edges34To42Test.class, Edges43To51Test.class};

    public static void main(String[] args) {
        Map<Integer, Integer> counts = new TreeMap<>();
        for (Class<?> tests : CLASSES) {
            int from = Integer.parseInt(tests.getName().substring(5, 7));
            int to = Integer.parseInt(tests.getName().substring(9, 11));
            for (String name : Each.in(tests).keySet()) {
                int promise = Each.promiseOf(name);
                Check.due(name + " stands in " + tests.getName(), promise >= from && promise <= to, true);
                counts.merge(promise, 1, Integer::sum);
            }
        }
        for (int promise = 1; promise <= 51; promise++) {
            Check.due("tests of promise " + promise, counts.getOrDefault(promise, 0) > 0, true);
        }
        System.out.println("tests by promise: " + counts);
        Check.end("EdgesAllTest");
    }
}
