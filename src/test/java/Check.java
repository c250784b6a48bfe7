import java.util.Arrays;

/** Counts the answers that are not as due, and prints each. */
final class Check {
    static final int NONE = -1, UNKNOWN = -101, OUTSIDE = -102, STATE = -103, FULL = -104;
    static final int LOW = Integer.MIN_VALUE, HIGH = Integer.MAX_VALUE;

    private final String name;
    private int looked;
    private int wrong;
    private String part = "";

    Check(String name) {
        this.name = name;
    }

    void part(String title) {
        part = title;
    }

    void due(String call, long got, long want) {
        looked++;
        if (got != want) {
            wrong++;
            System.out.println(part + ": " + call + " answered " + got + ", due is " + want);
        }
    }

    void holds(String what, boolean so) {
        due(what, so ? 1 : 0, 1);
    }

    /** Every call of an unchanged object must answer as before; this is what tells it. */
    void unchanged(String call, EarlyGauge gauge, long digestBefore) {
        due("digest() behind " + call, gauge.digest(), digestBefore);
    }

    void end() {
        System.out.println(name + ": " + looked + " answers looked at, " + wrong + " wrong");
        if (wrong != 0) {
            System.exit(1);
        }
    }

    static EarlyGauge typed(String text) {
        EarlyGauge gauge = new EarlyGauge();
        type(gauge, text);
        return gauge;
    }

    static void type(EarlyGauge gauge, String text) {
        for (int i = 0; i < text.length(); i++) {
            gauge.letter(text.charAt(i));
        }
    }

    static EarlyGauge station(String text) {
        EarlyGauge gauge = typed(text);
        if (gauge.station() < 1) {
            throw new IllegalStateException("no station: " + text);
        }
        return gauge;
    }

    static long fold(long start, long... numbers) {
        return Arrays.stream(numbers).reduce(start, (h, number) -> 31 * h + number);
    }
}
