/** For each promise of the document: ordinary inputs, the edges it names, wrong inputs. */
public final class PromiseTests {
    private static final int NONE = Check.NONE, UNKNOWN = Check.UNKNOWN, OUTSIDE = Check.OUTSIDE;
    private static final int STATE = Check.STATE, FULL = Check.FULL, LOW = Check.LOW, HIGH = Check.HIGH;

    // EARLY 1, SLIP 1; a weather stays or goes to the next one.
    private static final String RING = "190/019/901;11";
    // EARLY 2, SLIP 0; wet goes on to wet or frost only.
    private static final String RIGHT = "820/091/505;20";
    // EARLY 3, SLIP 0; no weather stays.
    private static final String NEVER = "055/505/550;30";
    // EARLY 4, SLIP 5; each day as each other.
    private static final String EVEN = "433/433/433;45";
    // As EVEN, with EARLY 1 and SLIP 2.
    private static final String SOON = "433/433/433;12";

    private static final Check check = new Check("PromiseTests");

    public static void main(String[] args) {
        newObject();
        letter();
        blank();
        fault();
        station();
        stationForgets();
        follows();
        reading();
        readingThatCannotBe();
        told();
        day();
        dayPays();
        person();
        about();
        covers();
        as();
        likely();
        likelyWithReadings();
        likeliest();
        ways();
        sure();
        look();
        book();
        forget();
        wrong();
        earliest();
        days();
        daysPaid();
        daysByHand();
        daysRefused();
        image();
        restore();
        restoreRefused();
        count();
        digest();
        check.end();
    }

    private static void newObject() {
        check.part("promise 1");
        EarlyGauge x = new EarlyGauge();
        for (int what = 0; what <= 9; what++) {
            check.due("count(" + what + ")", x.count(what), 0);
        }
        check.due("follows(0, 0)", x.follows(0, 0), STATE);
        check.due("fault()", x.fault(), 0);
        check.due("as(0, 0)", x.as(0, 0), UNKNOWN);
        check.due("earliest()", x.earliest(), NONE);
        check.due("NONE", EarlyGauge.NONE, -1);
        check.due("UNKNOWN", EarlyGauge.UNKNOWN, -101);
        check.due("OUTSIDE", EarlyGauge.OUTSIDE, -102);
        check.due("STATE", EarlyGauge.STATE, -103);
        check.due("FULL", EarlyGauge.FULL, -104);
    }

    private static void letter() {
        check.part("promise 2");
        EarlyGauge x = new EarlyGauge();
        for (int code : new int[] {31, 127, 0, -1, LOW, HIGH}) {
            check.due("letter(" + code + ")", x.letter(code), OUTSIDE);
        }
        check.due("letter(32)", x.letter(32), 1);
        check.due("letter(126)", x.letter(126), 2);
        for (int had = 2; had < 16; had++) {
            check.due("letter(65)", x.letter(65), had + 1);
        }
        check.due("letter(65), the 17th", x.letter(65), FULL);
        check.due("letter(31), the 17th", x.letter(31), OUTSIDE);
        check.due("count(8)", x.count(8), 16);
    }

    private static void blank() {
        check.part("promise 3");
        EarlyGauge x = Check.typed("190");
        check.due("blank()", x.blank(), 3);
        check.due("blank()", x.blank(), 0);
        check.due("count(8)", x.count(8), 0);
        check.due("letter(49)", x.letter(49), 1);
        Check.type(x, "1111111111111111");
        check.due("blank() of a full page", x.blank(), 16);
    }

    private static void fault() {
        check.part("promise 4");
        fault("", 0);
        fault("1", 1);
        fault("/", 0);
        fault(":", 0);
        fault("1x", 1);
        fault("19", 2);
        fault("92", 1);
        fault("91", 2);
        fault("190", 3);
        fault("910", 3);
        fault("191", 2);
        fault("189", 2);
        fault("18x", 2);
        fault("180", 2);
        fault("00", 2);
        fault("009", 2);
        fault("190;", 3);
        fault("1900", 3);
        fault("190/", 4);
        fault("190/019", 7);
        fault("190/018", 6);
        fault("190/92", 5);
        fault("190/019.", 7);
        fault("190/019/901", 11);
        fault("190/019/902", 10);
        fault("190/019/901/", 11);
        fault("190/019/901;", 12);
        fault("190/019/901;0", 12);
        fault("190/019/901;5", 12);
        fault("190/019/901;x", 12);
        fault("190/019/901;1", 13);
        fault("190/019/901;4", 13);
        fault("190/019/901;4/", 13);
        fault("190/019/901;4:", 13);
        fault("190/019/901;40", 14);
        fault("190/019/901;19", 14);
        fault("190/019/901;190", 14);
        fault("190/019/901;19  ", 14);
        // The first one counts, whatever comes behind it.
        fault("x90/018/902;00", 0);
    }

    private static void fault(String text, int want) {
        EarlyGauge x = Check.typed(text);
        check.due("fault() of " + text, x.fault(), want);
        check.due("count(8) of " + text, x.count(8), text.length());
    }

    private static void station() {
        check.part("promise 5");
        String[] none = {"", "190", "190/019/901;1", "190/019/901;111", "190/019/901;01",
                "190/018/901;11", "190/019/901;1x", "190/019/90;111", "xxxxxxxxxxxxxx"};
        for (String text : none) {
            EarlyGauge x = Check.typed(text);
            long before = x.digest();
            check.due("station() of " + text, x.station(), STATE);
            check.unchanged("station() of " + text, x, before);
        }
        for (int early = 1; early <= 4; early++) {
            EarlyGauge x = Check.typed("190/019/901;" + early + "7");
            check.due("station()", x.station(), early);
            check.due("count(0)", x.count(0), early);
            check.due("count(1)", x.count(1), 7);
            check.due("count(2)", x.count(2), 0);
            check.due("count(3)", x.count(3), 0);
            check.due("count(8)", x.count(8), 0);
            check.due("count(9)", x.count(9), 1);
            check.due("station() of an empty page", x.station(), STATE);
            check.due("count(9)", x.count(9), 1);
        }
    }

    private static void stationForgets() {
        check.part("promise 5, another one");
        EarlyGauge x = Check.station(RIGHT);
        x.person(0, 1, 1);
        x.book(1, 1);
        x.day(1);
        x.reading(1);
        x.image();
        Check.type(x, "055/505/550;4x");
        check.due("station() of a bad text", x.station(), STATE);
        check.due("count(2)", x.count(2), 1);
        check.due("count(7)", x.count(7), 1);
        x.blank();
        Check.type(x, NEVER);
        check.due("station()", x.station(), 3);
        check.due("told(2)", x.told(2), NONE);
        check.due("about(0, 0)", x.about(0, 0), UNKNOWN);
        check.due("follows(0, 0)", x.follows(0, 0), 0);
        check.due("restore()", x.restore(), STATE);
        int[] counts = {3, 0, 0, 0, 0, 0, 0, 0, 0, 2};
        for (int what = 0; what < counts.length; what++) {
            check.due("count(" + what + ")", x.count(what), counts[what]);
        }
        check.due("person(1, 1, 1)", x.person(1, 1, 1), 0);
        EarlyGauge four = Check.station(EVEN);
        four.reading(1);
        Check.type(four, EVEN);
        four.station();
        check.due("told(4)", four.told(4), NONE);
        check.due("ways()", four.ways(), 729);
    }

    private static void follows() {
        check.part("promise 6");
        EarlyGauge x = Check.station(RIGHT);
        int[] tenths = {8, 2, 0, 0, 9, 1, 5, 0, 5};
        for (int i = 0; i < tenths.length; i++) {
            check.due("follows(" + i / 3 + ", " + i % 3 + ")", x.follows(i / 3, i % 3), tenths[i]);
        }
        for (EarlyGauge any : new EarlyGauge[] {x, new EarlyGauge()}) {
            for (int bad : new int[] {-1, 3, LOW, HIGH}) {
                check.due("follows(" + bad + ", 0)", any.follows(bad, 0), UNKNOWN);
                check.due("follows(0, " + bad + ")", any.follows(0, bad), UNKNOWN);
            }
        }
        check.due("follows(2, 2), no station", new EarlyGauge().follows(2, 2), STATE);
    }

    private static void reading() {
        check.part("promise 7");
        EarlyGauge x = Check.station(EVEN);
        check.due("reading(2)", x.reading(2), 1);
        check.due("told(4)", x.told(4), 2);
        check.due("reading(0), in its place", x.reading(0), 1);
        check.due("told(4)", x.told(4), 0);
        x.day(0);
        check.due("reading(1)", x.reading(1), 2);
        x.day(0);
        x.day(0);
        check.due("reading(1)", x.reading(1), 3);
        x.day(0);
        check.due("reading(1), the first is gone", x.reading(1), 3);
        for (EarlyGauge any : new EarlyGauge[] {x, new EarlyGauge()}) {
            for (int bad : new int[] {-1, 3, LOW, HIGH}) {
                check.due("reading(" + bad + ")", any.reading(bad), UNKNOWN);
            }
        }
        check.due("reading(0), no station", new EarlyGauge().reading(0), STATE);
    }

    private static void readingThatCannotBe() {
        check.part("promise 7, what cannot be");
        EarlyGauge x = Check.station(NEVER);
        x.reading(1);
        x.day(1);
        // Wet on day 3 is told for sure, so day 4 is not wet.
        long before = x.digest();
        check.due("reading(1)", x.reading(1), STATE);
        check.unchanged("reading(1)", x, before);
        check.due("reading(0)", x.reading(0), 2);
        check.due("reading(1), in place of one", x.reading(1), STATE);
        check.due("told(3)", x.told(3), 0);
        // Behind dry, in one day, comes dry or wet; wet is told of by wet or (slipped) frost.
        EarlyGauge ring = Check.station(RING);
        check.due("reading(2)", ring.reading(2), 1);
        EarlyGauge dry = Check.station("910/091/901;11");
        dry.day(0);
        check.due("reading(0)", dry.reading(0), 1);
        EarlyGauge noSlip = Check.station("910/091/901;10");
        check.due("reading(2), no slip", noSlip.reading(2), STATE);
        check.due("count(4)", noSlip.count(4), 0);
        // SLIP 9: wet may be told as wet still.
        EarlyGauge slips = Check.station("910/091/901;19");
        check.due("reading(0)", slips.reading(0), 1);
        check.due("likely(1, 0, 0)", slips.likely(1, 0, 0), 1);
    }

    private static void told() {
        check.part("promise 8");
        EarlyGauge x = Check.station(RIGHT);
        for (int ahead = 1; ahead <= 4; ahead++) {
            check.due("told(" + ahead + ")", x.told(ahead), NONE);
        }
        x.reading(1);
        check.due("told(2)", x.told(2), 1);
        check.due("told(1)", x.told(1), NONE);
        x.day(1);
        check.due("told(2)", x.told(2), NONE);
        check.due("told(1)", x.told(1), 1);
        check.due("told(3), beyond EARLY", x.told(3), NONE);
        for (EarlyGauge any : new EarlyGauge[] {x, new EarlyGauge()}) {
            for (int bad : new int[] {0, 5, -1, LOW, HIGH}) {
                check.due("told(" + bad + ")", any.told(bad), UNKNOWN);
            }
        }
        check.due("told(1), no station", new EarlyGauge().told(1), STATE);
    }

    private static void day() {
        check.part("promise 9");
        EarlyGauge x = Check.station(RIGHT);
        check.due("day(0)", x.day(0), 1);
        check.due("count(2)", x.count(2), 1);
        check.due("day(1)", x.day(1), 2);
        check.due("count(3)", x.count(3), 1);
        long before = x.digest();
        check.due("day(0), no tenths", x.day(0), STATE);
        check.unchanged("day(0)", x, before);
        x.reading(2);
        check.due("day(2)", x.day(2), 3);
        // Frost is told of the next day; behind frost comes no wet day.
        check.due("day(0), told otherwise", x.day(0), STATE);
        check.due("day(1), no tenths", x.day(1), STATE);
        check.due("day(2)", x.day(2), 4);
        for (EarlyGauge any : new EarlyGauge[] {x, new EarlyGauge()}) {
            for (int bad : new int[] {-1, 3, LOW, HIGH}) {
                check.due("day(" + bad + ")", any.day(bad), UNKNOWN);
            }
        }
        check.due("day(0), no station", new EarlyGauge().day(0), STATE);
        // A day that no reading forbids may be forbidden by one further away.
        EarlyGauge far = Check.station("820/091/505;20");
        far.reading(0);
        check.due("day(1), dry behind it cannot be", far.day(1), STATE);
        check.due("day(0)", far.day(0), 1);
    }

    private static void dayPays() {
        check.part("promise 9, what they pay");
        EarlyGauge x = Check.station(SOON);
        x.person(0, 2, 7);
        x.person(3, 3, 8);
        x.person(4, 4, 9);
        x.day(1);
        paid(x, 7, 3, 9);
        x.day(0);
        paid(x, 7, 6, 9);
        x.reading(1);
        x.day(0);
        paid(x, 9, 6, 9);
        x.reading(0);
        x.day(2);
        paid(x, 9, 9, 13);
        x.reading(1);
        x.day(1);
        paid(x, 11, 17, 22);
        x.day(0);
        x.reading(2);
        check.due("day(0), told otherwise", x.day(0), STATE);
        paid(x, 11, 20, 22);
    }

    private static void paid(EarlyGauge x, int... want) {
        int all = 0;
        for (int i = 0; i < want.length; i++) {
            check.due("about(" + i + ", 3)", x.about(i, 3), want[i]);
            all += want[i];
        }
        check.due("count(6)", x.count(6), all);
    }

    private static void person() {
        check.part("promise 10");
        EarlyGauge x = Check.station(EVEN);
        int[][] outside = {{-1, 1, 1}, {5, 1, 1}, {0, 0, 1}, {0, 10, 1}, {0, 1, 0}, {0, 1, 10},
            {LOW, 1, 1}, {HIGH, 1, 1}, {0, LOW, 1}, {0, HIGH, 1}, {0, 1, LOW}, {0, 1, HIGH}};
        for (int[] bad : outside) {
            String call = "person(" + bad[0] + ", " + bad[1] + ", " + bad[2] + ")";
            check.due(call, x.person(bad[0], bad[1], bad[2]), OUTSIDE);
            check.due(call + ", no station", new EarlyGauge().person(bad[0], bad[1], bad[2]), OUTSIDE);
        }
        check.due("count(5)", x.count(5), 0);
        check.due("person(0, 1, 1), no station", new EarlyGauge().person(0, 1, 1), STATE);
        check.due("person(4, 1, 9)", x.person(4, 1, 9), 0);
        check.due("person(0, 9, 1)", x.person(0, 9, 1), 1);
        check.due("person(1, 9, 9)", x.person(1, 9, 9), 2);
        check.due("person(2, 1, 1)", x.person(2, 1, 1), 3);
        check.due("count(5)", x.count(5), 4);
        check.due("person(3, 1, 1), the fifth", x.person(3, 1, 1), FULL);
        check.due("person(5, 1, 1), the fifth", x.person(5, 1, 1), OUTSIDE);
        check.due("count(5)", x.count(5), 4);
    }

    private static void about() {
        check.part("promise 11");
        EarlyGauge x = Check.station(EVEN);
        for (int kind = 4; kind > 0; kind--) {
            int number = x.person(kind, kind + 1, kind + 2);
            check.due("about(" + number + ", 0)", x.about(number, 0), kind);
            check.due("about(" + number + ", 1)", x.about(number, 1), kind + 1);
            check.due("about(" + number + ", 2)", x.about(number, 2), kind + 2);
            check.due("about(" + number + ", 3)", x.about(number, 3), 0);
        }
        x.day(1);
        // Knees, contrary, miser, farmer; nobody was told of rain.
        check.due("about(0, 3)", x.about(0, 3), 6);
        check.due("about(1, 3)", x.about(1, 3), 4);
        check.due("about(2, 3)", x.about(2, 3), 4);
        check.due("about(3, 3)", x.about(3, 3), 3);
        for (int bad : new int[] {-1, 5, LOW, HIGH}) {
            check.due("about(0, " + bad + ")", x.about(0, bad), OUTSIDE);
            check.due("about(4, " + bad + ")", x.about(4, bad), UNKNOWN);
            check.due("about(" + bad + ", 0)", x.about(bad, 0), UNKNOWN);
        }
        check.due("about(0, 0), no station", new EarlyGauge().about(0, 0), UNKNOWN);
        EarlyGauge one = Check.station(EVEN);
        one.person(0, 1, 1);
        check.due("about(0, 0)", one.about(0, 0), 0);
        check.due("about(1, 0), not come yet", one.about(1, 0), UNKNOWN);
    }

    private static void covers() {
        check.part("promise 11, covering");
        // Wet by 3 of 10: for the farmer 9 times 3 / 10 is less than 3.
        EarlyGauge x = Check.station(SOON);
        x.person(0, 2, 7);
        x.person(1, 3, 9);
        x.person(3, 2, 7);
        x.person(4, 2, 7);
        covering(x, "nothing told", 0, 0, 1, 0);
        x.reading(1);
        // Wet by 3 times 8, dry (slipped) by 4 times 2: 24 of 32.
        covering(x, "wet told", 1, 1, 0, 0);
        x.reading(0);
        covering(x, "dry told", 0, 0, 1, 1);
        x.reading(2);
        // Frost by 3 times 8, wet (slipped) by 3 times 2: 9 times 6 / 30 is less than 3.
        covering(x, "frost told", 0, 0, 1, 1);
        // LOSS by how likely it is WET is COST itself: no.
        EarlyGauge like = Check.station("550/550/550;10");
        like.person(1, 3, 6);
        like.person(1, 2, 5);
        like.person(1, 3, 5);
        covering(like, "like likely", 0, 1, 0);
        EarlyGauge sure = Check.station("820/091/505;20");
        sure.person(2, 9, 1);
        sure.person(1, 9, 9);
        sure.person(1, 8, 9);
        sure.person(0, 1, 1);
        covering(sure, "by chance", 0, 0, 0, 0);
        sure.reading(2);
        // Frost in two days is only by wet; no reading tells of the next day itself.
        covering(sure, "sure", 1, 0, 1, 0);
        // Surely wet, but by no reading of that day: a keeper does not see it.
        EarlyGauge unseen = Check.station("820/091/505;20");
        unseen.person(0, 1, 1);
        unseen.person(3, 1, 1);
        unseen.person(4, 1, 1);
        unseen.reading(2);
        check.due("sure(1)", unseen.sure(1), 1);
        covering(unseen, "surely wet, not told", 0, 1, 0);
        EarlyGauge dry = Check.station("802/091/505;10");
        dry.person(2, 1, 9);
        dry.reading(2);
        covering(dry, "surely frost", 0);
    }

    private static void covering(EarlyGauge x, String when, int... want) {
        for (int i = 0; i < want.length; i++) {
            check.due("about(" + i + ", 4), " + when, x.about(i, 4), want[i]);
        }
    }

    private static void as() {
        check.part("promise 12");
        int[][] is = {{1, 0, 0, 0, 0}, {1, 1, 0, 0, 0}, {1, 0, 1, 0, 0}, {1, 0, 0, 1, 0}, {1, 0, 0, 1, 1}};
        for (int kind = 0; kind < is.length; kind++) {
            EarlyGauge x = Check.station(EVEN);
            x.person(0, 1, 1);
            x.person(kind, 1, 1);
            for (int taken = 0; taken < 5; taken++) {
                check.due(kind + " as " + taken, x.as(1, taken), is[kind][taken] == 1 ? 1 : NONE);
            }
            for (int bad : new int[] {-1, 5, LOW, HIGH}) {
                check.due("as(1, " + bad + ")", x.as(1, bad), OUTSIDE);
                check.due("as(2, " + bad + ")", x.as(2, bad), UNKNOWN);
                check.due("as(" + bad + ", 0)", x.as(bad, 0), UNKNOWN);
            }
        }
    }

    private static void likely() {
        check.part("promise 13");
        EarlyGauge x = Check.station(RIGHT);
        likely(x, 1, 0, 4, 5);
        likely(x, 1, 1, 1, 5);
        likely(x, 1, 2, 0, 1);
        // Dry 64, wet 16 + 18, frost 2.
        likely(x, 2, 0, 16, 25);
        likely(x, 2, 1, 17, 50);
        likely(x, 2, 2, 1, 50);
        EarlyGauge even = Check.station(EVEN);
        likely(even, 6, 0, 2, 5);
        likely(even, 6, 2, 3, 10);
        for (EarlyGauge any : new EarlyGauge[] {x, new EarlyGauge()}) {
            for (int bad : new int[] {0, 7, -1, LOW, HIGH}) {
                check.due("likely(" + bad + ", 0, 2)", any.likely(bad, 0, 2), UNKNOWN);
            }
            for (int bad : new int[] {-1, 3, LOW, HIGH}) {
                check.due("likely(1, " + bad + ", 2)", any.likely(1, bad, 2), UNKNOWN);
            }
            for (int bad : new int[] {-1, 2, LOW, HIGH}) {
                check.due("likely(1, 0, " + bad + ")", any.likely(1, 0, bad), OUTSIDE);
            }
        }
        check.due("likely(1, 0, 0), no station", new EarlyGauge().likely(1, 0, 0), STATE);
    }

    private static void likelyWithReadings() {
        check.part("promise 13, with readings");
        EarlyGauge x = Check.station(SOON);
        x.reading(1);
        likely(x, 1, 0, 1, 4);
        likely(x, 1, 0, 8, 32);
        likely(x, 1, 1, 3, 4);
        likely(x, 1, 2, 0, 1);
        likely(x, 2, 0, 2, 5);
        x.reading(0);
        // Dry by 4 times 8, frost slipped by 3 times 2.
        likely(x, 1, 0, 16, 19);
        likely(x, 1, 2, 3, 19);
        // A reading of the second day tells of the first one, too.
        EarlyGauge back = Check.station("820/091/505;21");
        back.reading(1);
        // On day 2: dry 64 by 1 (slipped), wet 16 + 18 by 9; day 1 dry: 64 + 144, wet: 162.
        likely(back, 2, 0, 64, 370);
        likely(back, 2, 1, 306, 370);
        likely(back, 2, 2, 0, 1);
        likely(back, 1, 0, 208, 370);
        likely(back, 1, 1, 162, 370);
        back.day(0);
        likely(back, 1, 0, 8, 26);
        likely(back, 1, 1, 18, 26);
    }

    private static void likely(EarlyGauge x, int ahead, int weather, long above, long below) {
        long most = below;
        while (above % most != 0 || below % most != 0) {
            most--;
        }
        String call = "likely(" + ahead + ", " + weather + ", ";
        check.due(call + "0)", x.likely(ahead, weather, 0), above / most);
        check.due(call + "1)", x.likely(ahead, weather, 1), below / most);
    }

    private static void likeliest() {
        check.part("promise 14");
        check.due("likeliest(), no station", new EarlyGauge().likeliest(), STATE);
        check.due("likeliest(), dry stays", Check.station(RIGHT).likeliest(), 0);
        // 0 1 2 0 1 2 0: the number of 1 2 0 1 2 0.
        check.due("likeliest(), a ring", Check.station(RING).likeliest(), 243 + 162 + 9 + 6);
        // All alike: each day the least that is not the last one's, 1 0 1 0 1 0.
        check.due("likeliest(), all alike", Check.station(NEVER).likeliest(), 243 + 27 + 3);
        EarlyGauge x = Check.station("433/433/433;40");
        x.reading(2);
        check.due("likeliest(), frost on the fourth", x.likeliest(), 2 * 9);
        x.day(1);
        check.due("likeliest(), frost on the third", x.likeliest(), 2 * 27);
        // Wet on the first costs tenths now and gains them later.
        EarlyGauge later = Check.station("640/091/901;10");
        check.due("likeliest()", later.likeliest(), 243 + 81 + 27 + 9 + 3 + 1);
    }

    private static void ways() {
        check.part("promise 15");
        check.due("ways(), no station", new EarlyGauge().ways(), STATE);
        check.due("ways(), all", Check.station(EVEN).ways(), 729);
        check.due("ways(), two each", Check.station(NEVER).ways(), 64);
        EarlyGauge x = Check.station(EVEN);
        x.reading(1);
        check.due("ways(), a day of two", x.ways(), 486);
        EarlyGauge right = Check.station("433/433/433;20");
        right.reading(1);
        check.due("ways(), a day of one", right.ways(), 243);
        right.day(0);
        right.reading(2);
        check.due("ways(), two days of one", right.ways(), 81);
        // Rare days can be as well.
        check.due("ways(), by one tenth", Check.station("811/811/811;10").ways(), 729);
        // Of NEVER, with wet on the third: x y 1, of dry: 1 0 1, 1 2 1, 2 0 1, then 8.
        EarlyGauge never = Check.station(NEVER);
        never.reading(1);
        check.due("ways()", never.ways(), 24);
    }

    private static void sure() {
        check.part("promise 16");
        EarlyGauge x = Check.station(RIGHT);
        for (int ahead = 1; ahead <= 6; ahead++) {
            check.due("sure(" + ahead + ")", x.sure(ahead), NONE);
        }
        x.reading(2);
        check.due("sure(1)", x.sure(1), 1);
        check.due("sure(2)", x.sure(2), 2);
        check.due("sure(3)", x.sure(3), NONE);
        x.reading(0);
        check.due("sure(1)", x.sure(1), 0);
        check.due("sure(2)", x.sure(2), 0);
        EarlyGauge far = Check.station("820/091/505;40");
        far.reading(2);
        check.due("sure(4)", far.sure(4), 2);
        check.due("sure(6)", far.sure(6), NONE);
        for (EarlyGauge any : new EarlyGauge[] {x, new EarlyGauge()}) {
            for (int bad : new int[] {0, 7, -1, LOW, HIGH}) {
                check.due("sure(" + bad + ")", any.sure(bad), UNKNOWN);
            }
        }
        check.due("sure(6), no station", new EarlyGauge().sure(6), STATE);
    }

    private static void look() {
        check.part("promise 17");
        // Wet by 3 of 10, always right: 2 against 3 times 2 / 10.
        EarlyGauge x = Check.station("433/433/433;10");
        look(x, 2, 9, 7, 5);
        // Without it: 9 times 3 / 10, with it: 5 times 3 / 10.
        look(x, 5, 9, 6, 5);
        look(x, 9, 9, 0, 1);
        look(x, 9, 1, 0, 1);
        // By SLIP 2: wet told by 24 wet, 8 dry; frost by 24, 6 wet; dry by 32, 6 frost. LOSS 5:
        // without it 1.5; with it min(64, 120) + 30 + 0, of 100.
        EarlyGauge slips = Check.station(SOON);
        look(slips, 2, 5, 56, 100);
        slips.reading(1);
        // Now wet 24 of 32: dry again by 8 (8), wet by 8 (24) and 2 (8), frost by 2 (24).
        // Times 10: without it 2 times 320, with it 0 + 2 times 208 + 2 times 48.
        look(slips, 2, 5, 640 - 416 - 96, 320);
        // A reading of a day further away changes it, too: day 2 frost says day 1 wet.
        EarlyGauge far = Check.station(RIGHT);
        look(far, 2, 5, 6, 10);
        far.reading(2);
        look(far, 2, 5, 0, 1);
        for (EarlyGauge any : new EarlyGauge[] {x, new EarlyGauge()}) {
            for (int bad : new int[] {0, 10, LOW, HIGH}) {
                check.due("look(" + bad + ", 1, 0)", any.look(bad, 1, 0), OUTSIDE);
                check.due("look(1, " + bad + ", 0)", any.look(1, bad, 0), OUTSIDE);
            }
            for (int bad : new int[] {-1, 2, LOW, HIGH}) {
                check.due("look(1, 1, " + bad + ")", any.look(1, 1, bad), OUTSIDE);
            }
        }
        check.due("look(1, 1, 0), no station", new EarlyGauge().look(1, 1, 0), STATE);
    }

    private static void look(EarlyGauge x, int cost, int loss, long above, long below) {
        long most = below;
        while (above % most != 0 || below % most != 0) {
            most--;
        }
        String call = "look(" + cost + ", " + loss + ", ";
        check.due(call + "0)", x.look(cost, loss, 0), above / most);
        check.due(call + "1)", x.look(cost, loss, 1), below / most);
    }

    private static void book() {
        check.part("promise 18");
        EarlyGauge x = new EarlyGauge();
        check.due("book(0, -1), no station", x.book(0, NONE), 1);
        for (int bad : new int[] {-1, 3, LOW, HIGH}) {
            check.due("book(" + bad + ", 0)", x.book(bad, 0), UNKNOWN);
        }
        for (int bad : new int[] {-2, 3, LOW, HIGH}) {
            check.due("book(0, " + bad + ")", x.book(0, bad), UNKNOWN);
        }
        for (int had = 1; had < 12; had++) {
            check.due("book(2, 2)", x.book(2, 2), had + 1);
        }
        check.due("book(1, 1), the 13th", x.book(1, 1), FULL);
        check.due("book(3, 1), the 13th", x.book(3, 1), UNKNOWN);
        check.due("book(1, -2), the 13th", x.book(1, -2), UNKNOWN);
        check.due("count(7)", x.count(7), 12);
        check.due("wrong(0)", x.wrong(0), 0);
    }

    private static void forget() {
        check.part("promise 19");
        EarlyGauge x = Check.station(EVEN);
        check.due("forget()", x.forget(), 0);
        x.book(0, 1);
        x.book(0, 1);
        check.due("forget()", x.forget(), 2);
        check.due("count(7)", x.count(7), 0);
        check.due("wrong(0)", x.wrong(0), 0);
        check.due("forget()", x.forget(), 0);
        check.due("book(1, 1)", x.book(1, 1), 1);
        check.due("wrong(0)", x.wrong(0), 0);
    }

    private static void wrong() {
        check.part("promise 20");
        EarlyGauge x = new EarlyGauge();
        written(x, 0, 1, 1, 1, 2, 0, 0, NONE, 1, 2);
        // By 0: 0/1 and 2/0 and 1/2; by 1: 1/1, 1/2, 0/0; by 2: 1/2, 1/0, 0/1.
        int[] by = {3, 1, 3, 1, 0};
        for (int i = 0; i < by.length; i++) {
            check.due("wrong(" + i + ")", x.wrong(i), by[i]);
        }
        for (int bad : new int[] {-1, 5, LOW, HIGH}) {
            check.due("wrong(" + bad + ")", x.wrong(bad), OUTSIDE);
        }
        EarlyGauge full = new EarlyGauge();
        for (int i = 0; i < 12; i++) {
            full.book(0, 1);
        }
        for (int i = 0; i <= 4; i++) {
            check.due("wrong(" + i + ") of a full book", full.wrong(i), 12 - i);
        }
    }

    private static void written(EarlyGauge x, int... pairs) {
        for (int i = 0; i + 1 < pairs.length; i += 2) {
            x.book(pairs[i], pairs[i + 1]);
        }
    }

    private static void earliest() {
        check.part("promise 21");
        EarlyGauge x = new EarlyGauge();
        check.due("earliest(), nothing written", x.earliest(), NONE);
        written(x, 0, NONE);
        check.due("earliest(), no reading", x.earliest(), NONE);
        written(x, 0, 1);
        // Wrong by 0, and no other number can be looked at.
        check.due("earliest(), the last day's alone", x.earliest(), 0);
        written(x, 2, NONE, 2, NONE);
        // By 0, 1 and 2 wrong once; by 3 and 4 nothing can be looked at.
        check.due("earliest(), of like ones the least", x.earliest(), 0);
        written(x, 1, NONE);
        check.due("earliest(), by 3 it is right", x.earliest(), 3);
        EarlyGauge four = new EarlyGauge();
        written(four, 0, 1, 0, NONE, 0, NONE, 0, NONE, 1, NONE);
        check.due("earliest(), by 4 it is right", four.earliest(), 4);
        EarlyGauge five = new EarlyGauge();
        written(five, 0, 1, 0, NONE, 0, NONE, 0, NONE, 0, NONE, 1, NONE);
        check.due("earliest(), 5 is too far", five.earliest(), 0);
    }

    private static void days() {
        check.part("promise 22");
        // Seeds from 9: 1341822084, 2065770669, 2064838978, 1449448499, each draw the rest by 10
        // of what is above 65536.
        long[] seeds = new long[9];
        int[] draws = new int[9];
        seeds[0] = 9;
        for (int i = 1; i < seeds.length; i++) {
            seeds[i] = (seeds[i - 1] * 1103515245L + 12345L) & 0x7fffffffL;
            draws[i] = (int) ((seeds[i] >> 16) % 10);
        }
        // EARLY 4: four weathers and a slip, then one and a slip each day.
        EarlyGauge x = Check.station(EVEN);
        check.due("days(1, 9, 3)", x.days(1, 9, 3), seeds[5]);
        check.due("days(2, 9, 3)", x.days(2, 9, 3), seeds[7]);
        check.due("days(1, 9, 0)", x.days(1, 9, 0), isWetByEven(draws[1]));
        check.due("days(2, 9, 0)", x.days(2, 9, 0), isWetByEven(draws[1]) + isWetByEven(draws[2]));
        check.due("days(1, 9, 2)", x.days(1, 9, 2), draws[5] < 5 ? 1 : 0);
        check.due("days(2, 9, 2)", x.days(2, 9, 2), (draws[5] < 5 ? 1 : 0) + (draws[7] < 5 ? 1 : 0));
        // EARLY 1: a weather and a slip each day.
        EarlyGauge soon = Check.station(SOON);
        check.due("days(4, 9, 3)", soon.days(4, 9, 3), seeds[8]);
        int wet = isWetByEven(draws[1]) + isWetByEven(draws[3]) + isWetByEven(draws[5]);
        check.due("days(3, 9, 0)", soon.days(3, 9, 0), wet);
        long before = soon.digest();
        soon.days(30, 0, 1);
        check.unchanged("days(30, 0, 1)", soon, before);
        check.due("days(30, 0, 2), no slip", Check.station(RIGHT).days(30, 0, 2), 0);
    }

    private static int isWetByEven(int draw) {
        return draw >= 4 && draw < 7 ? 1 : 0;
    }

    private static void daysPaid() {
        check.part("promise 22, what they pay");
        // The readings told before count for nothing: it begins with none.
        EarlyGauge told = Check.station("433/433/433;20");
        told.person(4, 5, 5);
        int alone = told.days(1, 3, 1);
        told.reading(0);
        told.day(0);
        check.due("days(1, 3, 1), told before", told.days(1, 3, 1), alone);
        // No slip, one day early: keepers cover just the wet days, contraries the others.
        EarlyGauge x = Check.station("433/433/433;10");
        int wet = x.days(30, 5, 0);
        x.person(0, 2, 9);
        check.due("days(30, 5, 1), a keeper", x.days(30, 5, 1), 2 * wet);
        x.person(3, 3, 5);
        check.due("days(30, 5, 1), a contrary", x.days(30, 5, 1), 2 * wet + 3 * (30 - wet) + 5 * wet);
        check.due("count(6)", x.count(6), 0);
        check.due("count(2)", x.count(2), 0);
        // What they paid before is not of these days.
        x.day(1);
        int before = x.count(6);
        check.holds("somebody paid", before > 0);
        check.due("days(30, 5, 1), later", x.days(30, 5, 1), 2 * wet + 3 * (30 - wet) + 5 * wet);
        // It is the weather now, not dry: behind frost no day is wet at once.
        EarlyGauge frost = Check.station("091/901/109;10");
        frost.day(2);
        for (int seed = 0; seed < 50; seed++) {
            check.due("days(1, " + seed + ", 0)", frost.days(1, seed, 0), 0);
        }
    }

    private static void daysByHand() {
        check.part("promise 22, by hand");
        int[][] tenths = {{1, 7, 2}, {3, 2, 5}, {6, 3, 1}};
        for (int slip = 0; slip <= 9; slip += 3) {
            for (int seed = 0; seed < 20; seed++) {
                int[] hand = byHand(tenths, slip, seed);
                EarlyGauge x = Check.station("172/325/631;1" + slip);
                for (int kind = 0; kind < 4; kind++) {
                    int other = kind == 3 ? 4 : kind;
                    EarlyGauge alone = Check.station("172/325/631;1" + slip);
                    alone.person(other, 4, 7);
                    x.person(other, 4, 7);
                    check.due("days(30, " + seed + ", 1), kind " + other, alone.days(30, seed, 1), hand[3 + kind]);
                }
                check.due("days(30, " + seed + ", 0)", x.days(30, seed, 0), hand[0]);
                check.due("days(30, " + seed + ", 2)", x.days(30, seed, 2), hand[1]);
                check.due("days(30, " + seed + ", 3)", x.days(30, seed, 3), hand[2]);
                check.due("days(30, " + seed + ", 1), all", x.days(30, seed, 1),
                        hand[3] + hand[4] + hand[5] + hand[6]);
            }
        }
    }

    /** With EARLY 1: how many were wet, slipped, the seed, what a keeper, farmer, miser and knees paid. */
    private static int[] byHand(int[][] tenths, int slip, int firstSeed) {
        int[] answer = new int[7];
        long seed = firstSeed;
        int now = 0;
        for (int day = 0; day < 30; day++) {
            seed = (seed * 1103515245L + 12345L) & 0x7fffffffL;
            long draw = (seed >> 16) % 10;
            int next = draw < tenths[now][0] ? 0 : draw < tenths[now][0] + tenths[now][1] ? 1 : 2;
            seed = (seed * 1103515245L + 12345L) & 0x7fffffffL;
            boolean slips = (seed >> 16) % 10 < slip;
            int told = slips ? (next + 1) % 3 : next;
            int right = tenths[now][told] * (10 - slip);
            int slipped = tenths[now][(told + 2) % 3] * slip;
            int wet = told == 1 ? right : told == 2 ? slipped : 0;
            boolean[] cover = {told == 1, 7 * wet > 4 * (right + slipped), wet == right + slipped, told != 1};
            for (int i = 0; i < 4; i++) {
                answer[3 + i] += cover[i] ? 4 : next == 1 ? 7 : 0;
            }
            answer[0] += next == 1 ? 1 : 0;
            answer[1] += slips ? 1 : 0;
            now = next;
        }
        answer[2] = (int) seed;
        return answer;
    }

    private static void daysRefused() {
        check.part("promise 22, refused");
        for (EarlyGauge any : new EarlyGauge[] {Check.station(EVEN), new EarlyGauge()}) {
            for (int bad : new int[] {0, 31, -1, LOW, HIGH}) {
                check.due("days(" + bad + ", 0, 0)", any.days(bad, 0, 0), OUTSIDE);
            }
            check.due("days(1, -1, 0)", any.days(1, -1, 0), OUTSIDE);
            check.due("days(1, LOW, 0)", any.days(1, LOW, 0), OUTSIDE);
            for (int bad : new int[] {-1, 4, LOW, HIGH}) {
                check.due("days(1, 0, " + bad + ")", any.days(1, 0, bad), OUTSIDE);
            }
        }
        check.due("days(1, 0, 0), no station", new EarlyGauge().days(1, 0, 0), STATE);
        EarlyGauge x = Check.station(SOON);
        check.holds("days(30, HIGH, 3)", x.days(30, HIGH, 3) >= 0);
        check.due("days(1, 0, 3)", x.days(1, 0, 3), (12345L * 1103515245L + 12345L) % 2147483648L);
    }

    private static void image() {
        check.part("promise 23");
        check.due("image(), no station", new EarlyGauge().image(), STATE);
        EarlyGauge x = Check.station(EVEN);
        check.due("image()", x.image(), 0);
        x.day(1);
        x.day(1);
        check.due("image()", x.image(), 2);
        x.day(2);
        check.due("restore(), the latest", x.restore(), 2);
        check.due("count(3)", x.count(3), 1);
        // The page is not taken away by it.
        Check.type(x, "433/4");
        long before = x.digest();
        x.image();
        check.unchanged("image()", x, before);
        check.due("count(8)", x.count(8), 5);
    }

    private static void restore() {
        check.part("promise 24");
        EarlyGauge x = Check.station("820/091/505;21");
        x.person(0, 1, 5);
        x.person(3, 1, 5);
        x.book(1, 2);
        x.day(1);
        x.reading(2);
        x.image();
        long before = x.digest();
        x.person(1, 3, 3);
        x.person(2, 3, 3);
        x.book(2, NONE);
        x.day(1);
        x.reading(1);
        x.day(2);
        check.holds("it has changed", x.digest() != before);
        check.due("restore()", x.restore(), 1);
        check.unchanged("restore()", x, before);
        paid(x, 5, 1);
        check.due("about(2, 0)", x.about(2, 0), UNKNOWN);
        check.due("told(2)", x.told(2), 2);
        check.due("count(5)", x.count(5), 2);
        check.due("person(4, 1, 1)", x.person(4, 1, 1), 2);
        x.forget();
        x.book(0, 0);
        x.day(1);
        check.due("restore(), again", x.restore(), 1);
        check.unchanged("restore(), again", x, before);
        check.due("wrong(0)", x.wrong(0), 1);
        EarlyGauge four = Check.station(EVEN);
        four.reading(1);
        four.book(0, 1);
        four.book(2, 0);
        four.image();
        four.reading(2);
        four.forget();
        four.book(1, 0);
        four.book(1, 1);
        four.restore();
        check.due("told(4)", four.told(4), 1);
        check.due("count(7)", four.count(7), 2);
        check.due("wrong(0)", four.wrong(0), 2);
        check.due("wrong(1)", four.wrong(1), 1);
        // The page is no part of it.
        x.letter(65);
        x.restore();
        check.due("count(8)", x.count(8), 1);
    }

    private static void restoreRefused() {
        check.part("promise 24, refused");
        check.due("restore(), no station", new EarlyGauge().restore(), STATE);
        EarlyGauge x = Check.station(EVEN);
        check.due("restore(), none kept", x.restore(), STATE);
        x.image();
        Check.type(x, "bad");
        x.station();
        x.blank();
        check.due("restore(), a station was refused", x.restore(), 0);
        Check.type(x, EVEN);
        x.station();
        x.day(1);
        long before = x.digest();
        check.due("restore(), the same text", x.restore(), STATE);
        check.unchanged("restore()", x, before);
        check.due("image()", x.image(), 1);
        check.due("restore()", x.restore(), 1);
    }

    private static void count() {
        check.part("promise 25");
        EarlyGauge x = Check.station(EVEN);
        Check.type(x, SOON);
        x.station();
        x.blank();
        Check.type(x, EVEN);
        x.station();
        x.person(0, 3, 4);
        x.person(0, 3, 5);
        x.day(1);
        x.day(1);
        x.reading(0);
        x.day(2);
        x.reading(0);
        x.day(2);
        x.reading(0);
        x.book(0, 0);
        x.book(0, 0);
        Check.type(x, "qqqqqq");
        int[] counts = {4, 5, 4, 2, 3, 2, 18, 2, 6, 3};
        for (int what = 0; what < counts.length; what++) {
            check.due("count(" + what + ")", x.count(what), counts[what]);
        }
        for (int bad : new int[] {-1, 10, LOW, HIGH}) {
            check.due("count(" + bad + ")", x.count(bad), OUTSIDE);
        }
    }

    private static void digest() {
        check.part("promise 26");
        long[] zeros = {0, 0, 0, 0, 0, -1, 0, 0, 0, 0, 0, 0, 0, 0, 0, 0};
        check.due("digest(), new", new EarlyGauge().digest(), Check.fold(821, zeros));
        EarlyGauge page = Check.typed("1~");
        page.book(0, 1);
        page.book(1, NONE);
        long h = Check.fold(821, 1, 0, 0, 0, 0, 1, '1', '~', 0, 0, 0, 0, 0, 0, 0, 2, 2, 0);
        check.due("digest(), no station", page.digest(), h);

        digestWithStation("253/253/253;20", 243 + 162 + 27 + 9 + 3 + 1, 1, 5, 1, 2, 3, 10);
        digestWithStation("433/433/433;20", 162, 2, 5, 3, 10, 3, 10);
    }

    private static void digestWithStation(String text, int likeliest, long... likely) {
        EarlyGauge x = Check.station(text);
        x.person(0, 3, 4);
        x.person(3, 1, 2);
        x.day(0);
        x.reading(2);
        x.letter(65);
        long h = Check.fold(821, 0, 3, 4, 0, 0, 3, 1, 2, 1, 1);
        h = Check.fold(h, NONE, 2, NONE, NONE);
        h = Check.fold(Check.fold(h, likely), likely);
        h = Check.fold(h, likeliest, 243, NONE);
        // A look at COST 2, LOSS 5: by wet 5 of 10 it is worth 2 less 1, by 3 of 10 1.5 less 0.6.
        h = likely[2] == 1 ? Check.fold(h, 1, 1) : Check.fold(h, 9, 10);
        h = Check.fold(h, 0, 0, 0, 0, 0, NONE, 65);
        check.due("digest() of " + text, x.digest(), Check.fold(h, 2, 0, 1, 0, 1, 2, 1, 0, 1, 1));
    }
}
