/** Every refusal: just inside and just outside of each bound, which comes first, and that nothing changes. */
public final class RefusalTests {
    private static final int UNKNOWN = Check.UNKNOWN, OUTSIDE = Check.OUTSIDE;
    private static final int STATE = Check.STATE, FULL = Check.FULL;

    private static final int NEW = States.NEW, BARE = States.BARE, READ = States.READ, BUSY = States.BUSY;
    private static final int CROWDED = States.CROWDED, STATES = States.ALL;

    // '#' is the number whose bounds are looked at; the others are good.
    private static final Object[][] BOUNDS = {
        {"letter(#)", 32, 126, OUTSIDE},
        {"follows(#,0)", 0, 2, UNKNOWN}, {"follows(0,#)", 0, 2, UNKNOWN},
        {"reading(#)", 0, 2, UNKNOWN}, {"told(#)", 1, 4, UNKNOWN}, {"day(#)", 0, 2, UNKNOWN},
        {"person(#,1,1)", 0, 4, OUTSIDE}, {"person(0,#,1)", 1, 9, OUTSIDE}, {"person(0,1,#)", 1, 9, OUTSIDE},
        {"likely(#,0,0)", 1, 6, UNKNOWN}, {"likely(1,#,0)", 0, 2, UNKNOWN}, {"likely(1,0,#)", 0, 1, OUTSIDE},
        {"sure(#)", 1, 6, UNKNOWN},
        {"look(#,1,0)", 1, 9, OUTSIDE}, {"look(1,#,0)", 1, 9, OUTSIDE}, {"look(1,1,#)", 0, 1, OUTSIDE},
        {"book(#,0)", 0, 2, UNKNOWN}, {"book(0,#)", -1, 2, UNKNOWN}, {"wrong(#)", 0, 4, OUTSIDE},
        {"days(#,0,0)", 1, 30, OUTSIDE}, {"days(1,#,0)", 0, Integer.MAX_VALUE, OUTSIDE},
        {"days(1,0,#)", 0, 3, OUTSIDE}, {"count(#)", 0, 9, OUTSIDE},
    };
    // Of the last numbered person of a state, and of the next number.
    private static final int[] PEOPLE = {0, 0, 0, 2, 4};

    private static final Check check = new Check("RefusalTests");

    private RefusalTests() { }

    public static void main(String[] args) {
        outsideOfBounds();
        insideOfBounds();
        people();
        withoutStation();
        whenFull();
        whatCannotBe();
        firstOfSeveral();
        badTexts();
        noImage();
        onlyTelling();
        check.end();
    }

    private static void refused(int state, String call, int want) {
        EarlyGauge x = States.made(state);
        refused(States.NAMES[state], x, States.made(state), call, want);
    }

    /** The twin is as x, and is not called: what x tells must stay as that, before and behind a restore. */
    private static void refused(String state, EarlyGauge x, EarlyGauge twin, String call, int want) {
        check.due(call + ", " + state, Answers.of(x, call), want);
        check.due(call + ", " + state + ", again", Answers.of(x, call), want);
        States.alike(check, call + ", " + state, x, twin);
        check.due("restore() behind " + call + ", " + state, x.restore(), twin.restore());
        States.alike(check, call + ", " + state + ", restored", x, twin);
    }

    private static void outsideOfBounds() {
        check.part("outside of a bound, in any state");
        for (Object[] row : BOUNDS) {
            int least = (int) row[1];
            int most = (int) row[2];
            int[] outside = {least - 1, least - 2, most + 1, most + 2, Check.LOW, Check.LOW + 1, Check.HIGH,
                Check.HIGH - 1, -1, -101, -102, -103, -104, least + 256, most - 256, least + 65536};
            for (int number : outside) {
                if (number < least || number > most) {
                    for (int state = NEW; state < STATES; state++) {
                        refused(state, call(row, number), (int) row[3]);
                    }
                }
            }
        }
    }

    private static void insideOfBounds() {
        check.part("inside of a bound");
        for (Object[] row : BOUNDS) {
            int least = (int) row[1];
            int most = (int) row[2];
            for (int number : new int[] {least, least + 1, most - 1, most}) {
                if (number >= least && number <= most) {
                    String call = call(row, number);
                    check.holds(call + " is taken", Answers.of(States.made(READ), call) >= Check.NONE);
                }
            }
        }
    }

    private static String call(Object[] row, int number) {
        return ((String) row[0]).replace("#", String.valueOf(number));
    }

    private static void people() {
        check.part("numbers of people");
        for (int state = NEW; state < STATES; state++) {
            int all = PEOPLE[state];
            for (int number : new int[] {-1, -2, all, all + 1, 4, 5, Check.LOW, Check.HIGH}) {
                for (int other : new int[] {0, 4, -1, 5}) {
                    refused(state, "about(" + number + "," + other + ")", UNKNOWN);
                    refused(state, "as(" + number + "," + other + ")", UNKNOWN);
                }
            }
            for (int number = 0; number < all; number++) {
                for (int other : new int[] {-1, -2, 5, 6, Check.LOW, Check.HIGH}) {
                    refused(state, "about(" + number + "," + other + ")", OUTSIDE);
                    refused(state, "as(" + number + "," + other + ")", OUTSIDE);
                }
                EarlyGauge x = States.made(state);
                check.holds("about(" + number + ", 0) is taken", x.about(number, 0) >= 0);
                check.holds("about(" + number + ", 4) is taken", x.about(number, 4) >= 0);
                check.due("as(" + number + ", 0)", x.as(number, 0), number);
                check.holds("as(" + number + ", 4) is taken", x.as(number, 4) >= Check.NONE);
            }
        }
    }

    private static void withoutStation() {
        check.part("no station");
        String[] calls = {"follows(0,0)", "follows(2,2)", "reading(0)", "reading(2)", "told(1)", "told(4)",
            "day(0)", "day(2)", "person(0,1,1)", "person(4,9,9)", "likely(1,0,0)", "likely(6,2,1)", "likeliest()",
            "ways()", "sure(1)", "sure(6)", "look(1,1,0)", "look(9,9,1)", "days(1,0,0)",
            "days(30,2147483647,3)", "image()", "restore()", "station()"};
        for (String call : calls) {
            refused(NEW, call, STATE);
            refused(BARE, call, STATE);
        }
        EarlyGauge x = States.made(BARE);
        check.due("book(0,-1), no station", x.book(0, Check.NONE), 3);
        check.due("wrong(1), no station", x.wrong(1), 0);
        check.due("wrong(0), no station", x.wrong(0), 1);
        check.due("earliest(), no station", x.earliest(), 1);
        check.due("forget(), no station", x.forget(), 3);
        check.due("letter(65), no station", x.letter(65), 7);
        check.due("fault(), no station", x.fault(), 6);
        check.due("blank(), no station", x.blank(), 7);
    }

    private static void whenFull() {
        check.part("full");
        for (String call : new String[] {"letter(32)", "letter(65)", "letter(126)", "person(0,1,1)",
            "person(4,9,9)", "book(0,0)", "book(2,-1)", "book(0,2)"}) {
            refused(CROWDED, call, FULL);
        }
        EarlyGauge x = States.made(CROWDED);
        check.due("blank()", x.blank(), 16);
        check.due("letter(32)", x.letter(32), 1);
        check.due("forget()", x.forget(), 12);
        check.due("book(0,0)", x.book(0, 0), 1);
        x.restore();
        check.due("person(0,1,1), three are gone", x.person(0, 1, 1), 1);
    }

    private static void whatCannotBe() {
        check.part("what cannot be");
        // No weather stays, nothing slips: wet on the third day is told, so not on the fourth.
        String never = "055/505/550;30";
        cannotBe(never, "reading(1)", "reading(1)", "image()", "day(1)");
        // That of the fourth day is dry, then; as one in its place wet cannot be, either.
        cannotBe(never, "reading(1)", "person(3,2,3)", "reading(1)", "image()", "day(1)", "reading(0)");
        cannotBe(never, "day(0)");
        cannotBe(never, "day(2)", "person(0,2,3)", "day(1)", "image()", "day(2)");
        // Wet is told of the next day itself.
        cannotBe(never, "day(2)", "person(3,2,3)", "reading(1)", "day(1)", "image()", "day(0)");
        cannotBe(never, "day(0)", "person(3,2,3)", "reading(1)", "day(1)", "image()", "day(0)");
        // Wet is told of the day behind the next, so the next one is not wet.
        cannotBe(never, "day(1)", "person(4,2,3)", "reading(1)", "image()", "day(2)");
        // By SLIP 1 and by SLIP 9 wet may be told of as wet or frost; what may be is not dry.
        for (int slip = 1; slip <= 9; slip += 8) {
            cannotBe("190/190/190;1" + slip, "day(2)", "person(0,9,9)", "image()", "reading(1)");
            cannotBe("091/091/091;1" + slip, "day(0)", "person(0,9,9)", "image()", "reading(0)");
            cannotBe("091/091/091;1" + slip, "day(1)", "person(0,9,9)", "image()", "reading(0)");
            cannotBe("505/505/505;1" + slip, "day(0)", "person(0,9,9)", "image()", "reading(2)");
            cannotBe("550/550/550;1" + slip, "day(0)", "person(0,9,9)", "image()", "reading(2)");
        }
        cannotBe("550/550/550;10", "reading(2)", "person(0,9,9)", "reading(1)", "image()", "day(1)");
        cannotBe("550/550/550;10", "reading(2)", "reading(0)");
        cannotBe("550/550/550;40", "reading(2)", "reading(0)");
        check.due("reading(2), by SLIP 1", Check.station("550/550/550;11").reading(2), 1);
        check.due("reading(0), by SLIP 1", Check.station("091/091/091;11").reading(0), 1);
        check.due("reading(1), by SLIP 1", Check.station("505/505/505;41").reading(1), 1);
    }

    private static void cannotBe(String text, String call, String... before) {
        EarlyGauge[] both = {Check.station(text), Check.station(text)};
        for (EarlyGauge x : both) {
            for (String earlier : before) {
                check.holds(earlier + " is taken", Answers.of(x, earlier) >= 0);
            }
        }
        refused(text + " behind " + String.join(" ", before), both[0], both[1], call, STATE);
    }

    private static void firstOfSeveral() {
        check.part("of several the first");
        String[] unknown = {"likely(0,0,2)", "likely(7,-1,-1)", "likely(1,3,2)"};
        for (int state = NEW; state < STATES; state++) {
            for (String call : unknown) {
                refused(state, call, UNKNOWN);
            }
            refused(state, "follows(3,-1)", UNKNOWN);
            refused(state, "book(3,-2)", UNKNOWN);
            refused(state, "person(5,0,10)", OUTSIDE);
            refused(state, "look(0,10,2)", OUTSIDE);
            refused(state, "days(0,-1,4)", OUTSIDE);
        }
        refused(CROWDED, "station()", STATE);
        refused(CROWDED, "book(0,3)", UNKNOWN);
        refused(CROWDED, "letter(127)", OUTSIDE);
        refused(CROWDED, "person(0,1,10)", OUTSIDE);
    }

    private static void badTexts() {
        check.part("texts that are no station");
        String[] bad = {"1", "820/091/505;2", "820/091/505;200", "820/091/505;20 ", " 820/091/505;20",
            "820/091/505;00", "820/091/505;50", "820/091/505;2/", "820/091/505;2:", "820/091/505;/0",
            "821/091/505;20", "819/091/505;20", "820/092/505;20", "820/090/505;20", "820/091/504;20",
            "820/091/506;20", "92//091/505;20", "820.091/505;20", "8200091/505;20", "820/091/505:20",
            "820/091/505<20", "820/091/505/20", "820;091/505;20", "000/091/505;20", "82:/091/505;20"};
        for (String text : bad) {
            EarlyGauge[] both = {States.made(BUSY), States.made(BUSY)};
            for (EarlyGauge x : both) {
                x.blank();
                Check.type(x, text);
            }
            refused("busy, " + text, both[0], both[1], "station()", STATE);
            EarlyGauge[] fresh = {Check.typed(text), Check.typed(text)};
            refused("new, " + text, fresh[0], fresh[1], "station()", STATE);
        }
        EarlyGauge empty = States.made(READ);
        refused("read, an empty page", empty, States.made(READ), "station()", STATE);
    }

    private static void noImage() {
        check.part("no image");
        refused(READ, "restore()", STATE);
        EarlyGauge[] both = {States.made(BUSY), States.made(BUSY)};
        for (EarlyGauge x : both) {
            x.blank();
            Check.type(x, "433/433/433;31");
            check.due("station()", x.station(), 3);
            x.person(0, 1, 1);
            x.day(1);
        }
        refused("read anew, of the same text", both[0], both[1], "restore()", STATE);
    }

    private static void onlyTelling() {
        check.part("calls that only tell");
        String[] calls = {"fault()", "follows(2,1)", "told(3)", "about(1,4)", "as(1,4)", "likely(3,1,1)",
            "likeliest()", "ways()", "sure(2)", "look(2,9,1)", "wrong(3)", "earliest()", "days(1,0,0)",
            "days(30,2147483647,1)", "days(17,12345,2)", "count(6)", "digest()"};
        for (String call : calls) {
            EarlyGauge x = States.made(BUSY);
            EarlyGauge twin = States.made(BUSY);
            long first = Answers.of(x, call);
            check.due(call + ", again", Answers.of(x, call), first);
            States.alike(check, call, x, twin);
            x.restore();
            twin.restore();
            States.alike(check, call + ", restored", x, twin);
        }
    }
}
