import java.util.Map;

/** Sentences of the document that name a boundary case which is no refusal: least, most, empty, full, wrapping. */
public final class BoundaryTests {
    private static final int NONE = Check.NONE, STATE = Check.STATE, FULL = Check.FULL;
    private static final int DRY = 0, WET = 1, FROST = 2;

    private static final Check check = new Check("BoundaryTests");

    private BoundaryTests() { }

    public static void main(String[] args) {
        eachLetterAtEachPlace();
        allTenths();
        theFirstFault();
        earlyAndSlip();
        emptyAndFullPage();
        anotherStation();
        bookAheadOfTheFirstStation();
        readingsByEarly();
        anotherReadingOfTheDay();
        slipWraps();
        slipNoneAndMost();
        theDayGoesByTheReading();
        tenthsOfNone();
        howLikelyAtEnds();
        likeliestAtEnds();
        likeliestOfLikeOnes();
        likeliestAtEachChange();
        waysAtEnds();
        sureAtEnds();
        peopleAtEnds();
        coversByTheNextDayAlone();
        moreThanCost();
        surelyWet();
        paysOnWetAlone();
        lookAtEnds();
        bookEmptyAndFull();
        wrongAsFarAsTheBookGoes();
        earliestOfLikeOnes();
        daysAtEnds();
        daysByEarly();
        daysBeginAnew();
        drawsAtTheTenths();
        imagesOfAllStates();
        imageOfFewAndMany();
        digestOfAllStates();
        lifetime();
        check.end();
    }

    // ---- the station

    private static void eachLetterAtEachPlace() {
        check.part("each letter at each place");
        String text = "433/190/055;37";
        String[] good = {"0123456789", "0123456", "3", "/", "0123456789", "0123456789", "0", "/", "0123456789",
            "0123456789", "5", ";", "1234", "0123456789"};
        for (int place = 0; place < text.length(); place++) {
            for (int code = 32; code <= 126; code++) {
                EarlyGauge x = Check.typed(text.substring(0, place));
                check.due("fault() of the first " + place, x.fault(), place);
                x.letter(code);
                int want = good[place].indexOf(code) >= 0 ? place + 1 : place;
                check.due("fault() with " + code + " at " + place, x.fault(), want);
            }
        }
        for (int code = 32; code <= 126; code++) {
            EarlyGauge x = Check.typed(text);
            x.letter(code);
            check.due("fault() with " + code + " at 14", x.fault(), 14);
            x.letter(code);
            check.due("fault() with " + code + " at 14 and 15", x.fault(), 14);
        }
    }

    private static void allTenths() {
        check.part("all three tenths");
        String[] before = {"", "433/", "433/190/"};
        for (int group = 0; group < before.length; group++) {
            for (int three = 0; three < 1000; three++) {
                int first = three / 100;
                int second = three / 10 % 10;
                int sum = first + second + three % 10;
                int fault = first + second > 10 ? 1 : sum != 10 ? 2 : 3;
                String text = before[group] + first + second + three % 10;
                EarlyGauge x = Check.typed(text);
                check.due("fault() of " + text, x.fault(), before[group].length() + fault);
                Check.type(x, "/433/190;11".substring(4 * group));
                check.due("station() of " + text, x.station(), sum == 10 ? 1 : STATE);
            }
        }
    }

    private static void theFirstFault() {
        check.part("the first fault, whatever is behind it");
        check.due("two faults", Check.typed("433/191/9x").fault(), 6);
        check.due("above 10, then no digit", Check.typed("92x/").fault(), 1);
        check.due("no digit, then above 10", Check.typed("x92").fault(), 0);
        check.due("not 10, then too many letters", Check.typed("434/190/055;3700").fault(), 2);
        check.due("no EARLY, then no SLIP", Check.typed("433/190/055;5x").fault(), 12);
        check.due("no mark, then no EARLY", Check.typed("433/190/055:0x").fault(), 11);
        check.due("an empty page", new EarlyGauge().fault(), 0);
    }

    private static void earlyAndSlip() {
        check.part("EARLY 1 to 4, SLIP 0 to 9");
        for (int early = 0; early <= 9; early++) {
            for (int slip = 0; slip <= 9; slip++) {
                EarlyGauge x = Check.typed("433/190/055;" + early + slip);
                boolean good = early >= 1 && early <= 4;
                check.due("fault(), " + early + slip, x.fault(), good ? 14 : 12);
                check.due("station(), " + early + slip, x.station(), good ? early : STATE);
                check.due("count(0), " + early + slip, x.count(0), good ? early : 0);
                check.due("count(1), " + early + slip, x.count(1), good ? slip : 0);
                check.due("count(8), " + early + slip, x.count(8), good ? 0 : 14);
                check.due("count(9), " + early + slip, x.count(9), good ? 1 : 0);
            }
        }
    }

    private static void emptyAndFullPage() {
        check.part("the page, empty and full");
        EarlyGauge x = new EarlyGauge();
        for (int round = 0; round < 2; round++) {
            check.due("blank() of an empty page", x.blank(), 0);
            for (int had = 0; had < 16; had++) {
                check.due("letter(" + (32 + had) + ")", x.letter(32 + had), had + 1);
            }
            check.due("the 17th", x.letter(126), FULL);
            check.due("blank() of a full page", x.blank(), 16);
        }
        // What a blank page had before is not read.
        Check.type(x, "433/190/055;3");
        check.due("station(), one letter too few", x.station(), STATE);
        x.letter('7');
        check.due("station()", x.station(), 3);
        check.due("fault() behind it", x.fault(), 0);
        x.letter('4');
        check.due("fault() of one letter", x.fault(), 1);
    }

    private static void anotherStation() {
        check.part("another station is as a first one");
        for (int state = States.NEW; state < States.ALL; state++) {
            for (String text : new String[] {"433/433/433;31", "820/091/505;20"}) {
                EarlyGauge x = States.made(state);
                int read = x.count(9);
                x.blank();
                Check.type(x, text);
                check.due("station()", x.station(), text.charAt(12) - '0');
                Map<String, Long> due = Answers.all(Check.station(text));
                due.put("count(9)", read + 1L);
                due.remove("digest()");
                due.forEach((call, want) -> check.due(call + " of " + text, Answers.of(x, call), want));
                check.due("restore()", x.restore(), STATE);
                check.due("person(0, 1, 1)", x.person(0, 1, 1), 0);
                check.due("book(0, 0)", x.book(0, 0), 1);
                check.due("image()", x.image(), 0);
            }
        }
    }

    private static void bookAheadOfTheFirstStation() {
        check.part("the book ahead of the first station");
        EarlyGauge x = States.made(States.BARE);
        check.due("count(7)", x.count(7), 2);
        Check.type(x, "1/505;20");
        check.due("station()", x.station(), 2);
        check.due("count(7)", x.count(7), 0);
        check.due("earliest()", x.earliest(), NONE);
    }

    // ---- days

    private static void readingsByEarly() {
        check.part("readings by EARLY");
        for (int early = 1; early <= 4; early++) {
            EarlyGauge x = Check.station("433/433/433;" + early + "5");
            for (int day = 0; day < 7; day++) {
                int told = Math.min(day + 1, early);
                check.due("reading(), day " + day, x.reading((day + 1) % 3), told);
                check.due("count(4), day " + day, x.count(4), told);
                for (int ahead = 1; ahead <= 4; ahead++) {
                    int made = day - early + ahead;
                    int want = ahead > early || made < 0 ? NONE : (made + 1) % 3;
                    check.due("told(" + ahead + "), day " + day, x.told(ahead), want);
                }
                // What was told of the next day is so, or was slipped.
                int next = x.told(1) == NONE ? DRY : x.told(1);
                check.due("day()", x.day(next), day + 1);
                check.due("count(4), a day later", x.count(4), Math.min(day + 1, early - 1));
            }
        }
    }

    private static void anotherReadingOfTheDay() {
        check.part("one reading for each day; another one takes its place");
        EarlyGauge x = Check.station("433/433/433;30");
        for (int weather : new int[] {WET, FROST, DRY, DRY, WET}) {
            check.due("reading(" + weather + ")", x.reading(weather), 1);
            check.due("told(3)", x.told(3), weather);
            check.due("sure(3)", x.sure(3), weather);
            check.due("ways()", x.ways(), 243);
        }
        // What was told of another day stays.
        x.day(DRY);
        check.due("reading(2)", x.reading(FROST), 2);
        check.due("reading(0), in its place", x.reading(DRY), 2);
        check.due("told(2)", x.told(2), WET);
        check.due("told(3)", x.told(3), DRY);
        // What cannot be with the one before may be in its place.
        EarlyGauge never = Check.station("055/505/550;10");
        never.reading(WET);
        check.due("reading(2), in place of 1", never.reading(FROST), 1);
        check.due("reading(0), in place of 2", never.reading(DRY), STATE);
        check.due("told(1)", never.told(1), FROST);
    }

    private static void slipWraps() {
        check.part("by SLIP the next weather, behind 2: 0");
        for (int told = 0; told < 3; told++) {
            EarlyGauge x = Check.station("433/433/433;13");
            x.reading(told);
            int[] odds = new int[3];
            int[] tenths = {4, 3, 3};
            odds[told] = tenths[told] * 7;
            odds[(told + 2) % 3] = tenths[(told + 2) % 3] * 3;
            for (int weather = 0; weather < 3; weather++) {
                likely(x, 1, weather, odds[weather], odds[0] + odds[1] + odds[2]);
            }
            // The one that neither is nor slips to what is told.
            check.due("day(" + (told + 1) % 3 + "), told " + told, x.day((told + 1) % 3), STATE);
            check.due("day(" + (told + 2) % 3 + "), told " + told, x.day((told + 2) % 3), 1);
        }
    }

    private static void slipNoneAndMost() {
        check.part("SLIP 0 and 9");
        EarlyGauge right = Check.station("433/433/433;10");
        right.reading(WET);
        likely(right, 1, WET, 1, 1);
        likely(right, 1, DRY, 0, 1);
        check.due("day(0), wet told", right.day(DRY), STATE);
        EarlyGauge most = Check.station("433/433/433;19");
        most.reading(WET);
        likely(most, 1, WET, 3, 39);
        likely(most, 1, DRY, 36, 39);
        likely(most, 1, FROST, 0, 1);
        check.due("day(1), by one tenth", most.day(WET), 1);
        EarlyGauge least = Check.station("433/433/433;11");
        least.reading(WET);
        likely(least, 1, WET, 27, 31);
        likely(least, 1, DRY, 4, 31);
        check.due("day(0), by one tenth", least.day(DRY), 1);
    }

    private static void theDayGoesByTheReading() {
        check.part("a reading of a day gone by");
        EarlyGauge x = Check.station("433/433/433;10");
        x.reading(WET);
        x.day(WET);
        check.due("count(4)", x.count(4), 0);
        check.due("told(1)", x.told(1), NONE);
        likely(x, 1, WET, 3, 10);
        check.due("ways()", x.ways(), 729);
        check.due("day(2)", x.day(FROST), 2);
        EarlyGauge four = Check.station("433/433/433;40");
        for (int day = 1; day <= 4; day++) {
            four.reading(day % 3);
            // On the fourth of them it is wet, as was told first.
            check.due("day(), the " + day + ".", four.day(day == 4 ? WET : DRY), day);
        }
        for (int ahead = 1; ahead <= 4; ahead++) {
            int want = ahead == 4 ? NONE : (ahead + 1) % 3;
            check.due("told(" + ahead + ")", four.told(ahead), want);
        }
        check.due("count(4)", four.count(4), 3);
    }

    private static void tenthsOfNone() {
        check.part("tenths of 0, and of 1");
        EarlyGauge x = Check.station("019/901/190;40");
        for (int weather = 0; weather < 3; weather++) {
            EarlyGauge y = Check.station("019/901/190;40");
            check.due("day(" + weather + ")", y.day(weather), weather == DRY ? STATE : 1);
        }
        x.day(WET);
        check.due("day(1), behind wet", x.day(WET), STATE);
        check.due("day(2), behind wet by one tenth", x.day(FROST), 2);
        check.due("day(2), behind frost", x.day(FROST), STATE);
        check.due("day(0), behind frost by one tenth", x.day(DRY), 3);
    }

    // ---- what is to come

    private static void likely(EarlyGauge x, int ahead, int weather, long above, long below) {
        long most = below;
        while (above % most != 0 || below % most != 0) {
            most--;
        }
        String call = "likely(" + ahead + ", " + weather + ", ";
        check.due(call + "0)", x.likely(ahead, weather, 0), above / most);
        check.due(call + "1)", x.likely(ahead, weather, 1), below / most);
    }

    private static void howLikelyAtEnds() {
        check.part("how likely, 1 and 6 from now, none and all");
        // By turns: dry goes to wet or frost, and both to dry by 9; by 1 wet to frost, frost to wet.
        EarlyGauge x = Check.station("055/901/910;40");
        likely(x, 1, DRY, 0, 1);
        likely(x, 1, WET, 1, 2);
        long odd = 0;
        long dry = 1;
        for (int ahead = 1; ahead <= 6; ahead++) {
            long next = odd * 9;
            odd = dry * 10 + odd;
            dry = next;
            long all = (long) Math.pow(10, ahead);
            likely(x, ahead, DRY, dry, all);
            likely(x, ahead, WET, odd, 2 * all);
            likely(x, ahead, FROST, odd, 2 * all);
        }
        // Told of the fourth, the fifth and sixth follow it.
        x.reading(DRY);
        likely(x, 4, DRY, 1, 1);
        likely(x, 4, WET, 0, 1);
        likely(x, 5, DRY, 0, 1);
        likely(x, 5, WET, 1, 2);
        likely(x, 6, DRY, 9, 10);
        likely(x, 6, FROST, 1, 20);
    }

    private static void likeliestAtEnds() {
        check.part("likeliest, the least number and the most");
        check.due("frost for ever", Check.station("019/019/019;10").likeliest(), 728);
        check.due("dry for ever", Check.station("901/901/901;10").likeliest(), 0);
        check.due("wet for ever", Check.station("190/190/190;10").likeliest(), 364);
        // The first day counts 243 times, the last one once.
        EarlyGauge first = Check.station("433/433/433;10");
        first.reading(FROST);
        check.due("frost on the first", first.likeliest(), 486);
        // Dry stays, but for the last day: wet on the fourth is told.
        EarlyGauge fourth = Check.station("433/433/433;40");
        fourth.reading(WET);
        check.due("wet on the fourth", fourth.likeliest(), 9);
        // Dry stays by 4 of 10, by turns wet and frost by 5 and 9: 5 9 9 9 9 9.
        check.due("the sixth counts", Check.station("451/109/190;10").likeliest(), 243 + 162 + 27 + 18 + 3 + 2);
    }

    private static void likeliestOfLikeOnes() {
        check.part("likeliest, of like ones the least");
        check.due("all like", Check.station("055/055/055;10").likeliest(), 364);
        check.due("dry and wet like", Check.station("550/550/550;10").likeliest(), 0);
        check.due("dry and frost like", Check.station("505/505/505;10").likeliest(), 0);
        // From wet: dry or frost by like tenths, then on for ever by 9 from each.
        EarlyGauge x = Check.station("910/505/019;10");
        x.day(WET);
        check.due("dry or frost for ever", x.likeliest(), 0);
        // From wet: frost goes on by 9, dry by 8 alone: the least number is not of most odds.
        EarlyGauge more = Check.station("820/505/019;10");
        more.day(WET);
        check.due("frost for ever", more.likeliest(), 728);
        // By SLIP 5 wet and frost are like likely where frost is told.
        EarlyGauge slips = Check.station("433/433/433;15");
        slips.reading(FROST);
        check.due("wet by slip", slips.likeliest(), 243);
    }

    private static void likeliestAtEachChange() {
        check.part("likeliest, as what is told now leaves it");
        EarlyGauge x = Check.station("190/019/901;20");
        check.due("nothing told", x.likeliest(), 243 + 162 + 9 + 6);
        x.reading(FROST);
        check.due("frost on the second, 1 2 0 1 2 0", x.likeliest(), 243 + 162 + 9 + 6);
        x.reading(DRY);
        check.due("dry on the second, 0 0 1 2 0 1", x.likeliest(), 27 + 18 + 1);
        x.reading(WET);
        // As likely as 1 1 2 0 1 2, and less.
        check.due("wet on the second, 0 1 2 0 1 2", x.likeliest(), 81 + 54 + 3 + 2);
        check.due("day(1)", x.day(WET), 1);
        check.due("wet on the first, 1 2 0 1 2 0", x.likeliest(), 243 + 162 + 9 + 6);
        check.due("day(1)", x.day(WET), 2);
        check.due("nothing told, 2 0 1 2 0 1", x.likeliest(), 486 + 27 + 18 + 1);
    }

    private static void waysAtEnds() {
        check.part("ways, the fewest and all");
        check.due("all", Check.station("811/181/118;10").ways(), 729);
        check.due("two each", Check.station("190/019/901;10").ways(), 64);
        EarlyGauge x = Check.station("190/190/190;40");
        for (int day = 0; day < 4; day++) {
            check.due("ways(), day " + day, x.ways(), 64 >> day);
            check.due("reading(0)", x.reading(DRY), Math.min(day + 1, 4));
            check.due("ways(), day " + day + ", told", x.ways(), 32 >> day);
            if (day < 3) {
                x.day(WET);
            }
        }
        // Four of six days are told: two ways each for the others.
        check.due("ways()", x.ways(), 4);
        // By SLIP above 0 a reading rules out one of three.
        EarlyGauge slips = Check.station("433/433/433;41");
        slips.reading(DRY);
        check.due("ways(), by SLIP", slips.ways(), 486);
    }

    private static void sureAtEnds() {
        check.part("sure, if it is one");
        for (int early = 1; early <= 4; early++) {
            for (int weather = 0; weather < 3; weather++) {
                EarlyGauge x = Check.station("433/433/433;" + early + "0");
                x.reading(weather);
                for (int ahead = 1; ahead <= 6; ahead++) {
                    check.due("sure(" + ahead + ")", x.sure(ahead), ahead == early ? weather : NONE);
                    likely(x, ahead, weather, ahead == early ? 1 : weather == DRY ? 4 : 3, ahead == early ? 1 : 10);
                }
            }
        }
        // 81 to 1 is not sure: dry by one tenth, told as wet by SLIP 1.
        EarlyGauge rare = Check.station("190/190/190;11");
        rare.reading(WET);
        likely(rare, 1, DRY, 1, 82);
        check.due("sure(1), but for 1 of 82", rare.sure(1), NONE);
        // No reading tells of it, but ahead of wet and behind dry only frost can be.
        EarlyGauge between = Check.station("055/505/550;20");
        between.reading(WET);
        check.due("sure(1), behind dry ahead of wet", between.sure(1), FROST);
        check.due("told(1)", between.told(1), NONE);
        // The day behind the one that is told: two tenths above 0 are two weathers.
        check.due("sure(3), behind wet", between.sure(3), NONE);
    }

    private static void lookAtEnds() {
        check.part("a look, worth nothing and most");
        EarlyGauge x = Check.station("190/190/190;10");
        // Wet by 9 of 10, always right: LOSS 9, COST 1: 1 less 1 times 9 / 10.
        look(x, 1, 9, 1, 10);
        look(x, 9, 1, 0, 1);
        look(x, 9, 9, 0, 1);
        // What is sure already, a look does not tell.
        EarlyGauge sure = Check.station("433/433/433;10");
        sure.reading(WET);
        look(sure, 1, 9, 0, 1);
        look(sure, 9, 9, 0, 1);
        EarlyGauge dry = Check.station("433/433/433;10");
        dry.reading(DRY);
        look(dry, 1, 9, 0, 1);
        EarlyGauge never = Check.station("901/901/901;19");
        look(never, 1, 9, 0, 1);
        // LOSS 8 by half is COST 4: either is as good, and a look that is right halves it.
        look(Check.station("550/550/550;10"), 4, 8, 2, 1);
        // By SLIP 5 (times 100): without it 400; with it wet told 200 (wet 25, dry 25), dry told 0,
        // frost told 100 (wet 25 alone).
        look(Check.station("550/550/550;15"), 4, 8, 400 - 200 - 100, 100);
    }

    private static void look(EarlyGauge x, int cost, int loss, long above, long below) {
        long most = below;
        while (above % most != 0 || below % most != 0) {
            most--;
        }
        String call = "look(" + cost + ", " + loss + ", ";
        check.due(call + "0)", x.look(cost, loss, 0), above / most);
        check.due(call + "1)", x.look(cost, loss, 1), below / most);
    }

    // ---- people

    private static void peopleAtEnds() {
        check.part("people, least and most of each number");
        for (int kind = 0; kind < 5; kind++) {
            for (int cost = 1; cost <= 9; cost++) {
                EarlyGauge x = Check.station("433/433/433;11");
                for (int number = 0; number < 4; number++) {
                    int loss = number < 2 ? 1 + number : 6 + number;
                    check.due("person()", x.person(kind, cost, loss), number);
                    check.due("about(0)", x.about(number, 0), kind);
                    check.due("about(1)", x.about(number, 1), cost);
                    check.due("about(2)", x.about(number, 2), loss);
                    check.due("about(3)", x.about(number, 3), 0);
                    check.due("as(own kind)", x.as(number, kind), number);
                    check.due("as(0)", x.as(number, 0), number);
                    check.due("count(5)", x.count(5), number + 1);
                }
                check.due("person(), the fifth", x.person(kind, cost, 9), FULL);
                check.due("count(5)", x.count(5), 4);
            }
        }
    }

    private static void covering(EarlyGauge x, int... want) {
        for (int i = 0; i < want.length; i++) {
            check.due("about(" + i + ", 4)", x.about(i, 4), want[i]);
        }
    }

    private static void coversByTheNextDayAlone() {
        check.part("covers by the reading of the next day alone");
        for (int early = 1; early <= 4; early++) {
            EarlyGauge x = Check.station("433/433/433;" + early + "5");
            x.person(0, 1, 1);
            x.person(3, 1, 1);
            x.person(4, 1, 1);
            covering(x, 0, 1, 0);
            for (int told : new int[] {WET, DRY, FROST}) {
                x.reading(told);
                boolean next = early == 1;
                covering(x, next && told == WET ? 1 : 0, next && told == WET ? 0 : 1, next && told != WET ? 1 : 0);
            }
            x.reading(WET);
            for (int day = 1; day < early; day++) {
                covering(x, 0, 1, 0);
                x.day(DRY);
            }
            covering(x, 1, 0, 0);
            x.day(WET);
            covering(x, 0, 1, 0);
        }
    }

    private static void moreThanCost() {
        check.part("a farmer: LOSS by how likely is more than COST");
        // Wet by 5 of 10.
        EarlyGauge half = Check.station("550/550/550;10");
        for (int cost = 1; cost <= 9; cost++) {
            for (int loss = 1; loss <= 9; loss += 4) {
                half.image();
                half.person(1, cost, loss);
                check.due("cost " + cost + ", loss " + loss, half.about(0, 4), loss > 2 * cost ? 1 : 0);
                half.restore();
            }
        }
        EarlyGauge like = Check.station("550/550/550;10");
        like.person(1, 4, 8);
        like.person(1, 4, 9);
        covering(like, 0, 1);
        // Wet surely: LOSS itself.
        EarlyGauge sure = Check.station("550/550/550;10");
        sure.reading(WET);
        sure.person(1, 9, 9);
        sure.person(1, 8, 9);
        sure.person(1, 1, 1);
        sure.person(1, 1, 2);
        covering(sure, 0, 1, 0, 1);
        // Wet never: not even by COST 1, LOSS 9.
        EarlyGauge never = Check.station("901/901/901;10");
        never.person(1, 1, 9);
        covering(never, 0);
        // Wet by 27 of 31, as one of SLIP 1 told it, and by 3 of 10 without.
        EarlyGauge slips = Check.station("433/433/433;11");
        slips.person(1, 8, 9);
        slips.person(1, 7, 9);
        slips.person(1, 2, 7);
        covering(slips, 0, 0, 1);
        slips.reading(WET);
        covering(slips, 0, 1, 1);
    }

    private static void surelyWet() {
        check.part("a miser: surely wet");
        EarlyGauge x = Check.station("190/190/190;11");
        x.person(2, 1, 9);
        covering(x, 0);
        x.reading(WET);
        // 81 of 82 is not sure.
        covering(x, 0);
        x.reading(FROST);
        // Frost cannot be, so it slipped from wet.
        covering(x, 1);
        EarlyGauge dry = Check.station("433/433/433;10");
        dry.person(2, 1, 9);
        dry.reading(DRY);
        covering(dry, 0);
        dry.reading(FROST);
        covering(dry, 0);
        dry.reading(WET);
        covering(dry, 1);
        // It is the next day, not the one that is told.
        EarlyGauge far = Check.station("433/433/433;20");
        far.person(2, 1, 9);
        far.reading(WET);
        covering(far, 0);
        far.day(DRY);
        covering(far, 1);
    }

    private static void paysOnWetAlone() {
        check.part("who covers pays COST, who does not LOSS by wet");
        for (int weather = 0; weather < 3; weather++) {
            EarlyGauge x = Check.station("433/433/433;15");
            x.person(0, 1, 9);
            x.person(3, 9, 1);
            x.person(4, 7, 2);
            x.person(1, 2, 7);
            check.due("day(" + weather + ")", x.day(weather), 1);
            boolean wet = weather == WET;
            int[] due = {wet ? 9 : 0, 9, wet ? 2 : 0, 2};
            for (int i = 0; i < due.length; i++) {
                check.due("about(" + i + ", 3), " + weather, x.about(i, 3), due[i]);
            }
            check.due("count(6), " + weather, x.count(6), due[0] + due[1] + due[2] + due[3]);
        }
        // Who comes behind a wet day has paid nothing for it.
        EarlyGauge later = Check.station("433/433/433;15");
        later.day(WET);
        later.person(0, 1, 9);
        check.due("about(0, 3)", later.about(0, 3), 0);
        check.due("count(6)", later.count(6), 0);
    }

    // ---- a book

    private static void bookEmptyAndFull() {
        check.part("the book, empty and full");
        EarlyGauge x = new EarlyGauge();
        for (int round = 0; round < 2; round++) {
            check.due("forget() of an empty book", x.forget(), 0);
            check.due("earliest() of an empty book", x.earliest(), NONE);
            for (int had = 0; had < 12; had++) {
                check.due("wrong(0)", x.wrong(0), had);
                check.due("book(0, 1)", x.book(DRY, WET), had + 1);
                check.due("count(7)", x.count(7), had + 1);
            }
            check.due("the 13th", x.book(WET, WET), FULL);
            check.due("wrong(0)", x.wrong(0), 12);
            check.due("wrong(4)", x.wrong(4), 8);
            check.due("forget() of a full book", x.forget(), 12);
        }
        for (int by = 0; by <= 4; by++) {
            check.due("wrong(" + by + ") of an empty book", x.wrong(by), 0);
        }
    }

    private static void wrongAsFarAsTheBookGoes() {
        check.part("wrong, as far as the book goes");
        // One reading in a book of each length, at each place; all else is dry, told of by none.
        for (int length = 1; length <= 12; length++) {
            for (int place = 0; place < length; place++) {
                EarlyGauge wet = new EarlyGauge();
                EarlyGauge right = new EarlyGauge();
                for (int day = 0; day < length; day++) {
                    wet.book(DRY, day == place ? WET : NONE);
                    right.book(DRY, day == place ? DRY : NONE);
                }
                for (int by = 0; by <= 4; by++) {
                    String what = "wrong(" + by + "), " + place + " of " + length;
                    check.due(what, wet.wrong(by), place + by < length ? 1 : 0);
                    check.due(what + ", right", right.wrong(by), 0);
                }
                // The farthest number by which the book still goes.
                int far = Math.min(4, length - 1 - place);
                check.due("earliest(), " + place + " of " + length, wet.earliest(), 0);
                wet.forget();
                for (int day = 0; day < length; day++) {
                    wet.book(day == place + far ? WET : DRY, day == place ? WET : NONE);
                }
                check.due("earliest(), right by " + far, wet.earliest(), far);
            }
        }
    }

    private static void earliestOfLikeOnes() {
        check.part("earliest, of like ones the least, of those looked at");
        for (int length = 1; length <= 12; length++) {
            EarlyGauge right = new EarlyGauge();
            EarlyGauge wrong = new EarlyGauge();
            EarlyGauge none = new EarlyGauge();
            for (int day = 0; day < length; day++) {
                right.book(WET, WET);
                wrong.book(WET, FROST);
                none.book(WET, NONE);
            }
            check.due("all right, " + length, right.earliest(), 0);
            // The more the number, the fewer are looked at, and wrong.
            check.due("all wrong, " + length, wrong.earliest(), Math.min(4, length - 1));
            check.due("none, " + length, none.earliest(), NONE);
        }
        // By 1 and by 2 wrong once, by 0 twice; by 3 and 4 no reading can be looked at.
        EarlyGauge like = new EarlyGauge();
        like.book(WET, DRY);
        like.book(WET, FROST);
        like.book(FROST, NONE);
        check.due("wrong(0)", like.wrong(0), 2);
        check.due("wrong(1)", like.wrong(1), 1);
        check.due("wrong(2)", like.wrong(2), 1);
        check.due("wrong(3)", like.wrong(3), 0);
        check.due("earliest()", like.earliest(), 1);
        // None of the last days' readings: those by which nothing is looked at are never it.
        EarlyGauge last = new EarlyGauge();
        for (int day = 0; day < 11; day++) {
            last.book(DRY, NONE);
        }
        last.book(DRY, WET);
        check.due("earliest(), the last one's", last.earliest(), 0);
    }

    // ---- days by a seed

    private static long next(long seed) {
        return (seed * 1103515245L + 12345L) % 2147483648L;
    }

    private static void daysAtEnds() {
        check.part("days, 1 and 30, SEED 0 and the most");
        for (int early = 1; early <= 4; early++) {
            for (int slip = 0; slip <= 9; slip += 9) {
                EarlyGauge x = Check.station("433/433/433;" + early + slip);
                for (int seed : new int[] {0, 1, 65535, 65536, Check.HIGH - 1, Check.HIGH}) {
                    for (int days : new int[] {1, 2, 29, 30}) {
                        long due = seed;
                        // A weather for each day and for those behind the last one, a slip for each day.
                        for (int i = 0; i < days + early - 1 + days; i++) {
                            due = next(due);
                        }
                        check.due("days(" + days + ", " + seed + ", 3)", x.days(days, seed, 3), due);
                    }
                }
            }
        }
    }

    private static void daysByEarly() {
        check.part("days, drawn as far as they are not yet");
        int[][] tenths = {{2, 5, 3}, {4, 1, 5}, {3, 3, 4}};
        for (int early = 1; early <= 4; early++) {
            for (int seed = 0; seed < 40; seed++) {
                int slip = seed % 10;
                EarlyGauge x = Check.station("253/415/334;" + early + slip);
                x.person(0, 3, 8);
                for (int days : new int[] {1, 2, 5, 30}) {
                    long[] due = byHand(tenths, early, slip, days, seed);
                    for (int what = 0; what <= 3; what++) {
                        check.due("days(" + days + ", " + seed + ", " + what + ")", x.days(days, seed, what), due[what]);
                    }
                }
            }
        }
    }

    /** What a keeper of COST 3, LOSS 8 meets, from a dry day. */
    private static long[] byHand(int[][] tenths, int early, int slip, int days, long firstSeed) {
        long seed = firstSeed;
        int[] weather = new int[days + early + 1];
        int[] told = new int[days + early + 1];
        int drawn = 0;
        long[] answer = new long[4];
        for (int day = 0; day < days; day++) {
            while (drawn < day + early) {
                seed = next(seed);
                long draw = seed / 65536 % 10;
                int[] row = tenths[weather[drawn]];
                drawn++;
                weather[drawn] = draw < row[0] ? DRY : draw < row[0] + row[1] ? WET : FROST;
            }
            seed = next(seed);
            boolean slips = seed / 65536 % 10 < slip;
            answer[2] += slips ? 1 : 0;
            told[day + early] = 1 + (weather[day + early] + (slips ? 1 : 0)) % 3;
            boolean covers = told[day + 1] == 1 + WET;
            answer[1] += covers ? 3 : weather[day + 1] == WET ? 8 : 0;
            answer[0] += weather[day + 1] == WET ? 1 : 0;
        }
        answer[3] = seed;
        return answer;
    }

    private static void daysBeginAnew() {
        check.part("days, no reading at first, from the weather now");
        for (int kind = 0; kind < 5; kind++) {
            for (int seed = 0; seed < 30; seed++) {
                EarlyGauge told = Check.station("433/433/433;40");
                told.person(kind, 4, 5);
                int alone = told.days(3, seed, 1);
                for (int day = 0; day < 3; day++) {
                    told.reading(WET);
                    told.day(FROST);
                }
                told.reading(WET);
                check.due("days(3, " + seed + ", 1), all are told", told.days(3, seed, 1), alone);
            }
        }
        // Behind wet it stays wet by 9, behind dry it is wet by none.
        EarlyGauge now = Check.station("802/091/190;10");
        EarlyGauge wet = Check.station("802/091/190;10");
        check.due("day(2)", wet.day(FROST), 1);
        check.due("day(1)", wet.day(WET), 2);
        int wetDays = 0;
        for (int seed = 0; seed < 40; seed++) {
            check.due("days(1, " + seed + ", 0), dry now", now.days(1, seed, 0), 0);
            int draw = (int) (next(seed) / 65536 % 10);
            check.due("days(1, " + seed + ", 0), wet now", wet.days(1, seed, 0), draw < 9 ? 1 : 0);
            wetDays += draw < 9 ? 1 : 0;
        }
        check.holds("both were drawn", wetDays > 0 && wetDays < 40);
    }

    private static void drawsAtTheTenths() {
        check.part("a draw below the first tenths 0, below both 1, else 2; below SLIP it slips");
        // One seed for each draw of 10, and for each draw of the slip behind it.
        for (int draw = 0; draw < 10; draw++) {
            int seed = 0;
            while (next(seed) / 65536 % 10 != draw) {
                seed++;
            }
            for (int first = 1; first <= 8; first++) {
                EarlyGauge x = Check.station(first + "1" + (9 - first) + "/433/433;10");
                check.due("days(1, " + seed + ", 0), wet by draw " + first, x.days(1, seed, 0), draw == first ? 1 : 0);
                x.person(3, 9, 2);
                // No slip: a contrary covers if it is not told to be wet.
                check.due("days(1, " + seed + ", 1)", x.days(1, seed, 1), draw == first ? 2 : 9);
            }
            int before = 0;
            while (next(next(before)) / 65536 % 10 != draw) {
                before++;
            }
            for (int slip = 0; slip <= 9; slip++) {
                EarlyGauge x = Check.station("433/433/433;1" + slip);
                check.due("days(1, " + before + ", 2), SLIP " + slip, x.days(1, before, 2), draw < slip ? 1 : 0);
            }
        }
    }

    // ---- what is told of all

    private static void imagesOfAllStates() {
        check.part("an image of each state, all changed behind it");
        for (int state = States.READ; state < States.ALL; state++) {
            EarlyGauge x = States.made(state);
            x.blank();
            check.due("image()", x.image(), x.count(2));
            Map<String, Long> due = Answers.all(x);
            for (int round = 0; round < 2; round++) {
                change(x);
                check.holds("it has changed", !Answers.all(x).equals(due));
                check.due("restore()", x.restore(), due.get("count(2)"));
                due.forEach((call, want) -> check.due(call + " behind restore()", Answers.of(x, call), want));
            }
        }
    }

    private static void change(EarlyGauge x) {
        x.person(0, 1, 9);
        x.person(3, 9, 1);
        x.forget();
        x.book(FROST, WET);
        for (int day = 0; day < 5; day++) {
            for (int told = 0; told < 3; told++) {
                x.reading((told + day) % 3);
            }
            for (int next = 0; next < 3; next++) {
                x.day(next);
            }
        }
    }

    private static void imageOfFewAndMany() {
        check.part("an image, the latest; whom it keeps");
        EarlyGauge x = Check.station("433/433/433;40");
        check.due("image(), nobody yet", x.image(), 0);
        for (int number = 0; number < 4; number++) {
            x.person(3, 5, 5);
        }
        x.day(WET);
        check.due("restore()", x.restore(), 0);
        check.due("count(5)", x.count(5), 0);
        check.due("count(6)", x.count(6), 0);
        check.due("person(0, 1, 2), the first again", x.person(0, 1, 2), 0);
        x.person(4, 3, 4);
        x.day(WET);
        check.due("image(), of two", x.image(), 1);
        x.person(1, 1, 1);
        x.person(1, 1, 1);
        check.due("person(), the fifth", x.person(1, 1, 1), FULL);
        x.day(WET);
        check.due("count(6)", x.count(6), 2 + 4 + 2 + 4 + 1 + 1);
        check.due("restore(), the latest", x.restore(), 1);
        check.due("count(5)", x.count(5), 2);
        check.due("about(0, 3)", x.about(0, 3), 2);
        check.due("about(1, 3)", x.about(1, 3), 4);
        check.due("count(6)", x.count(6), 6);
        check.due("person(2, 7, 8), with nothing paid", x.person(2, 7, 8), 2);
        check.due("about(2, 3)", x.about(2, 3), 0);
        check.due("about(2, 0)", x.about(2, 0), 2);
        check.due("about(3, 0)", x.about(3, 0), Check.UNKNOWN);
        // The page, and how often a station was read, are as they are.
        Check.type(x, "433/");
        check.due("restore()", x.restore(), 1);
        check.due("count(8)", x.count(8), 4);
        check.due("fault()", x.fault(), 4);
        check.due("count(9)", x.count(9), 1);
    }

    private static void digestOfAllStates() {
        check.part("digest, of what the other calls tell, wrapping");
        String[] pages = {"", "820/09", "", "1900", "1900/901;1456789"};
        for (int state = States.NEW; state < States.ALL; state++) {
            EarlyGauge x = States.made(state);
            long due = digestByItsCalls(x, state >= States.READ, pages[state]);
            check.due("digest(), " + States.NAMES[state], x.digest(), due);
        }
        // Of a station whose days differ each from each, so that no number stands for another.
        EarlyGauge x = Check.station("172/325/631;32");
        x.person(1, 4, 7);
        x.reading(WET);
        for (int day = 0; day < 5; day++) {
            check.due("digest(), day " + day, x.digest(), digestByItsCalls(x, true, "~ ".substring(0, day % 3)));
            check.holds("likely(5) is not likely(6)", x.likely(5, WET, 1) != x.likely(6, WET, 1));
            x.day(day % 2 + 1);
            x.reading(day % 3);
            x.book(day % 3, (day + 2) % 3);
            x.blank();
            Check.type(x, "~ ".substring(0, (day + 1) % 3));
        }
    }

    private static long digestByItsCalls(EarlyGauge x, boolean read, String page) {
        long h = 821;
        for (int i = 0; i < x.count(5); i++) {
            for (int what = 0; what <= 4; what++) {
                h = Check.fold(h, x.about(i, what));
            }
        }
        if (read) {
            h = Check.fold(h, x.told(1), x.told(2), x.told(3), x.told(4));
            for (int ahead = 1; ahead <= 6; ahead += 5) {
                for (int weather = 0; weather < 3; weather++) {
                    h = Check.fold(h, x.likely(ahead, weather, 0), x.likely(ahead, weather, 1));
                }
            }
            h = Check.fold(h, x.likeliest(), x.ways(), x.sure(1), x.look(2, 5, 0), x.look(2, 5, 1));
        }
        h = Check.fold(h, x.wrong(0), x.wrong(1), x.wrong(2), x.wrong(3), x.wrong(4), x.earliest());
        for (int i = 0; i < page.length(); i++) {
            h = Check.fold(h, page.charAt(i));
        }
        for (int what = 0; what <= 9; what++) {
            h = Check.fold(h, x.count(what));
        }
        return h;
    }

    private static void lifetime() {
        check.part("512 calls");
        EarlyGauge x = Check.station("091/091/091;49");
        int calls = 15;
        for (int number = 0; number < 4; number++) {
            x.person(number == 0 ? 3 : 0, 9, 9);
            calls++;
        }
        int day = 0;
        while (calls < 508) {
            day++;
            check.due("day(1)", x.day(WET), day);
            calls++;
        }
        check.due("count(6), the 509th", x.count(6), 4 * 9 * day);
        check.due("about(3, 3), the 510th", x.about(3, 3), 9 * day);
        check.due("days(30, 1, 1), the 511th", x.days(30, 1, 1), sameFour(30, 1));
        check.due("count(2), the 512th", x.count(2), day);
    }

    /** What four as those of the lifetime pay, of a station of their own. */
    private static int sameFour(int days, int seed) {
        EarlyGauge x = Check.station("091/091/091;49");
        x.person(3, 9, 9);
        for (int number = 1; number < 4; number++) {
            x.person(0, 9, 9);
        }
        x.day(WET);
        return x.days(days, seed, 1);
    }
}
