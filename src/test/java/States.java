import java.util.Map;

/** Objects in some states, each made anew, and the look whether two are in the same one. */
final class States {
    static final int NEW = 0, BARE = 1, READ = 2, BUSY = 3, CROWDED = 4, ALL = 5;
    static final String[] NAMES = {"new", "bare", "read", "busy", "crowded"};

    private States() { }

    static EarlyGauge made(int state) {
        if (state == NEW) {
            return new EarlyGauge();
        }
        if (state == BARE) {
            EarlyGauge bare = Check.typed("820/09");
            bare.book(1, 2);
            bare.book(2, -1);
            return bare;
        }
        EarlyGauge x = Check.station("433/433/433;31");
        if (state == READ) {
            return x;
        }
        x.person(4, 2, 5);
        x.reading(1);
        x.book(0, 1);
        x.day(2);
        x.reading(0);
        x.image();
        // What goes on behind the image is not what it keeps, so a lost or new image is seen.
        x.person(3, 1, 9);
        x.book(2, 1);
        x.day(1);
        x.reading(2);
        Check.type(x, "1900");
        if (state == CROWDED) {
            x.person(1, 9, 9);
            x.person(2, 3, 4);
            for (int i = 2; i < 12; i++) {
                x.book(i % 3, (i + 1) % 4 - 1);
            }
            Check.type(x, "/901;14567890");
        }
        return x;
    }

    static void alike(Check check, String behind, EarlyGauge x, EarlyGauge twin) {
        Map<String, Long> due = Answers.all(twin);
        Answers.all(x).forEach((call, got) -> check.due(call + " behind " + behind, got, due.get(call)));
    }
}
