import java.lang.reflect.Method;
import java.util.Arrays;
import java.util.LinkedHashMap;
import java.util.Map;

/** Calls told by their text, and all that an object tells of itself. */
final class Answers {
    // digest() tells of people, of likely(1 and 6), the book and the page; these are the others.
    private static final String[] TELLING = {
        "digest()", "fault()", "follows(0,0)", "follows(0,1)", "follows(0,2)", "follows(1,0)",
        "follows(1,1)", "follows(1,2)", "follows(2,0)", "follows(2,1)", "follows(2,2)",
        "told(1)", "told(2)", "told(3)", "told(4)",
        "about(0,3)", "about(1,3)", "about(2,3)", "about(3,3)", "as(0,3)", "as(1,3)", "as(2,3)", "as(3,3)",
        "likely(2,0,0)", "likely(2,0,1)", "likely(2,1,0)", "likely(2,2,0)",
        "likely(3,0,0)", "likely(3,0,1)", "likely(3,1,0)", "likely(3,2,0)",
        "likely(4,0,0)", "likely(4,0,1)", "likely(4,1,0)", "likely(4,2,0)", "likely(5,1,0)", "likely(5,1,1)",
        "sure(1)", "sure(2)", "sure(3)", "sure(4)", "sure(5)", "sure(6)", "look(1,9,0)", "look(9,9,1)",
        "wrong(0)", "wrong(4)", "earliest()", "days(30,7,0)", "days(30,7,1)", "days(30,7,2)", "days(30,7,3)",
        "count(0)", "count(1)", "count(2)", "count(3)", "count(4)", "count(5)", "count(6)", "count(7)",
        "count(8)", "count(9)",
    };

    private Answers() { }

    static long of(EarlyGauge gauge, String call) {
        String name = call.substring(0, call.indexOf('('));
        String inside = call.substring(call.indexOf('(') + 1, call.indexOf(')')).replace(" ", "");
        Object[] values = inside.isEmpty() ? new Object[0]
                : Arrays.stream(inside.split(",")).map(Integer::valueOf).toArray();
        Class<?>[] types = new Class<?>[values.length];
        Arrays.fill(types, int.class);
        try {
            Method method = EarlyGauge.class.getMethod(name, types);
            return ((Number) method.invoke(gauge, values)).longValue();
        } catch (ReflectiveOperationException broken) {
            throw new IllegalStateException(call, broken);
        }
    }

    static Map<String, Long> all(EarlyGauge gauge) {
        Map<String, Long> answers = new LinkedHashMap<>();
        for (String call : TELLING) {
            answers.put(call, of(gauge, call));
        }
        return answers;
    }
}
