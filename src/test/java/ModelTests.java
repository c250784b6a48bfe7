import java.lang.reflect.Method;
import java.util.ArrayList;
import java.util.Arrays;
import java.util.List;
import java.util.Random;

/** Long runs of calls, each answer held against the model's. */
public final class ModelTests {
    private static final int RUNS = 400, CALLS = 512;

    // How often a call comes, its name, and for each argument the least and the most that is usual.
    private static final Object[][] CALLS_OF_A_RUN = {
        {4, "letter", 45, 60}, {1, "blank"}, {2, "fault"}, {1, "station"},
        {1, "follows", 0, 2, 0, 2}, {12, "reading", 0, 2}, {3, "told", 1, 4}, {12, "day", 0, 2},
        {4, "person", 0, 4, 1, 9, 1, 9}, {5, "about", 0, 3, 0, 4}, {3, "about", 0, 3, 4, 4},
        {2, "as", 0, 3, 0, 4}, {5, "likely", 1, 6, 0, 2, 0, 1}, {3, "likeliest"}, {3, "ways"},
        {3, "sure", 1, 6}, {4, "look", 1, 9, 1, 9, 0, 1}, {8, "book", 0, 2, -1, 2}, {1, "forget"},
        {3, "wrong", 0, 4}, {3, "earliest"}, {2, "days", 1, 30, 0, Integer.MAX_VALUE - 1, 0, 3},
        {2, "image"}, {2, "restore"}, {3, "count", 0, 9}, {1, "digest"},
    };
    private static final int[] WILD = {-1, 0, 3, 5, 7, 10, 13, 31, 127, -2, -101, 1000,
        Integer.MIN_VALUE, Integer.MAX_VALUE, Integer.MAX_VALUE - 1, Integer.MIN_VALUE + 1};

    private static final Check check = new Check("ModelTests");

    private ModelTests() { }

    public static void main(String[] args) throws ReflectiveOperationException {
        List<Object[]> bag = new ArrayList<>();
        for (Object[] row : CALLS_OF_A_RUN) {
            for (int i = 0; i < (int) row[0]; i++) {
                bag.add(row);
            }
        }
        for (int run = 0; run < RUNS; run++) {
            check.part("run " + run);
            oneRun(new Random(run), bag);
        }
        check.end();
    }

    private static void oneRun(Random random, List<Object[]> bag) throws ReflectiveOperationException {
        EarlyGauge gauge = new EarlyGauge();
        Model model = new Model();
        for (int i = random.nextInt(20); i > 0; i--) {
            oneCall(random, bag, gauge, model);
        }
        for (int calls = 0; calls < CALLS - 60; calls++) {
            if (calls % 150 == 0) {
                readOne(random, gauge, model);
            }
            oneCall(random, bag, gauge, model);
        }
        both(gauge, model, "digest");
    }

    private static void readOne(Random random, EarlyGauge gauge, Model model)
            throws ReflectiveOperationException {
        both(gauge, model, "blank");
        for (char letter : text(random).toCharArray()) {
            both(gauge, model, "letter", letter);
        }
        both(gauge, model, "fault");
        both(gauge, model, "station");
    }

    private static String text(Random random) {
        StringBuilder text = new StringBuilder();
        for (int v = 0; v < 3; v++) {
            int first = random.nextInt(10);
            int second = first == 0 ? 1 + random.nextInt(9) : random.nextInt(11 - first);
            if (random.nextInt(3) == 0) {
                second = first == 0 ? 5 : 10 - first;
            }
            text.append(first).append(second).append(10 - first - second).append(v < 2 ? '/' : ';');
        }
        return text.append(1 + random.nextInt(4)).append(random.nextInt(3) == 0 ? 0 : random.nextInt(10))
                .toString();
    }

    private static void oneCall(Random random, List<Object[]> bag, EarlyGauge gauge, Model model)
            throws ReflectiveOperationException {
        Object[] row = bag.get(random.nextInt(bag.size()));
        int[] args = new int[(row.length - 2) / 2];
        for (int i = 0; i < args.length; i++) {
            int least = (int) row[2 + 2 * i];
            int most = (int) row[3 + 2 * i];
            args[i] = random.nextInt(15) == 0 ? WILD[random.nextInt(WILD.length)]
                    : least + random.nextInt(most - least + 1);
        }
        both(gauge, model, (String) row[1], args);
    }

    private static void both(EarlyGauge gauge, Model model, String name, int... args)
            throws ReflectiveOperationException {
        Class<?>[] types = new Class<?>[args.length];
        Arrays.fill(types, int.class);
        Object[] values = Arrays.stream(args).boxed().toArray();
        Method of = EarlyGauge.class.getMethod(name, types);
        Method due = Model.class.getDeclaredMethod(name, types);
        long want = ((Number) due.invoke(model, values)).longValue();
        check.due(name + Arrays.toString(args), ((Number) of.invoke(gauge, values)).longValue(), want);
    }
}
