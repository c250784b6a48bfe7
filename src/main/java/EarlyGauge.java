/** A station whose gauge tells of days to come; ../shared/DOC.md says what every call answers. */
public final class EarlyGauge {
    public static final int NONE = -1, UNKNOWN = -101, OUTSIDE = -102, STATE = -103, FULL = -104;

    private static final int WEATHERS = 3, DRY = 0, WET = 1;
    private static final int TEN = 10;
    private static final int FARTHEST_READING = 4;
    private static final int DAYS_TO_COME = 6;
    private static final int PEOPLE_MOST = 4;
    private static final int FARTHEST_WRONG = 4;
    private static final int KINDS = 5;
    private static final int ABOUTS = 5;
    private static final int COUNTS = 10;

    private final Page page;
    private final Station station;
    private final Outlook coming;
    private final Keeper[] people;
    private final Book book;
    private final Trial trial;
    private final Image image;
    private int stationsRead;

    public EarlyGauge() {
        Station read = new Station();
        page = new Page();
        station = read;
        coming = new Outlook(read);
        people = new Keeper[PEOPLE_MOST];
        book = new Book();
        trial = new Trial(read, new Outlook(read));
        image = new Image(new Outlook(read), new Book());
    }

    // ---- the station

    public int letter(int code) {
        if (code < 32 || code > 126) {
            return OUTSIDE;
        }
        return page.append(code) ? page.letters : FULL;
    }

    public int blank() {
        int had = page.letters;
        page.letters = 0;
        return had;
    }

    public int fault() {
        return page.firstFault();
    }

    public int station() {
        if (!page.isStation()) {
            return STATE;
        }
        station.read(page);
        coming.startAnew(DRY);
        for (int i = 0; i < PEOPLE_MOST; i++) {
            people[i] = null;
        }
        book.days = 0;
        image.kept = false;
        page.letters = 0;
        stationsRead++;
        return station.early;
    }

    public int follows(int v, int w) {
        if (!isWeather(v) || !isWeather(w)) {
            return UNKNOWN;
        }
        return station.isRead() ? station.tenthsFrom(v, w) : STATE;
    }

    // ---- days

    public int reading(int weather) {
        if (!isWeather(weather)) {
            return UNKNOWN;
        }
        if (!station.isRead() || !coming.tell(weather)) {
            return STATE;
        }
        return coming.readingsTold();
    }

    public int told(int ahead) {
        if (ahead < 1 || ahead > FARTHEST_READING) {
            return UNKNOWN;
        }
        return station.isRead() ? coming.readingOf(ahead) : STATE;
    }

    public int day(int weather) {
        if (!isWeather(weather)) {
            return UNKNOWN;
        }
        if (!station.isRead() || coming.oddsOf(1, weather) <= 0) {
            return STATE;
        }
        // They cover before they know: payment looks at the readings, which the next line drops.
        for (int i = 0; i < PEOPLE_MOST; i++) {
            Keeper one = people[i];
            if (one != null) {
                one.paid += one.payment(coming, weather);
            }
        }
        coming.passDay(weather);
        return coming.dayNumber;
    }

    // ---- people

    public int person(int kind, int cost, int loss) {
        if (kind < 0 || kind >= KINDS || !isPrice(cost) || !isPrice(loss)) {
            return OUTSIDE;
        }
        if (!station.isRead()) {
            return STATE;
        }
        for (int i = 0; i < PEOPLE_MOST; i++) {
            if (people[i] == null) {
                people[i] = newcomer(kind, cost, loss);
                return i;
            }
        }
        return FULL;
    }

    public int about(int person, int what) {
        Keeper one = personOf(person);
        if (one == null) {
            return UNKNOWN;
        }
        switch (what) {
            case 0:
                return one.kindNumber();
            case 1:
                return one.cost;
            case 2:
                return one.loss;
            case 3:
                return one.paid;
            case 4:
                return one.covers(coming) ? 1 : 0;
            default:
                return OUTSIDE;
        }
    }

    public int as(int person, int kind) {
        Keeper one = personOf(person);
        if (one == null) {
            return UNKNOWN;
        }
        if (kind < 0 || kind >= KINDS) {
            return OUTSIDE;
        }
        return isOfKind(one, kind) ? person : NONE;
    }

    // ---- what is to come

    public long likely(int ahead, int weather, int part) {
        if (!isAhead(ahead) || !isWeather(weather)) {
            return UNKNOWN;
        }
        if (!isPart(part)) {
            return OUTSIDE;
        }
        if (!station.isRead()) {
            return STATE;
        }
        return lowestTerms(coming.oddsOf(ahead, weather), coming.allOdds(), part);
    }

    public int likeliest() {
        return station.isRead() ? coming.numberOfMostOdds() : STATE;
    }

    public int ways() {
        return station.isRead() ? coming.possibleDays() : STATE;
    }

    public int sure(int ahead) {
        if (!isAhead(ahead)) {
            return UNKNOWN;
        }
        return station.isRead() ? coming.sureWeather(ahead) : STATE;
    }

    public long look(int cost, int loss, int part) {
        if (!isPrice(cost) || !isPrice(loss) || !isPart(part)) {
            return OUTSIDE;
        }
        if (!station.isRead()) {
            return STATE;
        }
        long without = TEN * coming.meanByKnowing(NONE, cost, loss);
        long with = 0;
        for (int reading = 0; reading < WEATHERS; reading++) {
            with += coming.meanByKnowing(reading, cost, loss);
        }
        return lowestTerms(without - with, TEN * coming.allOdds(), part);
    }

    // ---- a book

    public int book(int weather, int reading) {
        if (!isWeather(weather) || (reading != NONE && !isWeather(reading))) {
            return UNKNOWN;
        }
        return book.append(weather, reading) ? book.days : FULL;
    }

    public int forget() {
        int had = book.days;
        book.days = 0;
        return had;
    }

    public int wrong(int by) {
        return by < 0 || by > FARTHEST_WRONG ? OUTSIDE : book.wrongReadings(by);
    }

    public int earliest() {
        int found = NONE;
        for (int by = 0; by <= FARTHEST_WRONG; by++) {
            boolean better = found == NONE || book.wrongReadings(by) < book.wrongReadings(found);
            if (book.readingsSeen(by) > 0 && better) {
                found = by;
            }
        }
        return found;
    }

    public int days(int days, int seed, int what) {
        if (days < 1 || days > 30 || seed < 0 || what < 0 || what > 3) {
            return OUTSIDE;
        }
        if (!station.isRead()) {
            return STATE;
        }
        trial.begin(seed, coming.weather);
        for (int i = 0; i < days; i++) {
            trial.tellOne();
            trial.passOne(people);
        }
        switch (what) {
            case 0:
                return trial.wet;
            case 1:
                return trial.paid;
            case 2:
                return trial.slipped;
            default:
                return (int) trial.seed;
        }
    }

    // ---- what is told of all

    public int image() {
        if (!station.isRead()) {
            return STATE;
        }
        image.coming.copyFrom(coming);
        image.book.copyFrom(book);
        image.people = countPeople();
        for (int i = 0; i < PEOPLE_MOST; i++) {
            Keeper one = people[i];
            image.paid[i] = one == null ? 0 : one.paid;
        }
        image.kept = true;
        return coming.dayNumber;
    }

    public int restore() {
        if (!image.kept) {
            return STATE;
        }
        coming.copyFrom(image.coming);
        book.copyFrom(image.book);
        for (int i = 0; i < PEOPLE_MOST; i++) {
            Keeper one = people[i];
            if (i >= image.people) {
                people[i] = null;
            } else if (one != null) {
                one.paid = image.paid[i];
            }
        }
        return coming.dayNumber;
    }

    public int count(int what) {
        switch (what) {
            case 0:
                return station.early;
            case 1:
                return station.slip;
            case 2:
                return coming.dayNumber;
            case 3:
                return coming.weather;
            case 4:
                return coming.readingsTold();
            case 5:
                return countPeople();
            case 6:
                return paidByAll();
            case 7:
                return book.days;
            case 8:
                return page.letters;
            case 9:
                return stationsRead;
            default:
                return OUTSIDE;
        }
    }

    public long digest() {
        long h = digestOfPeople(821);
        if (station.isRead()) {
            h = digestOfComing(h);
        }
        for (int by = 0; by <= FARTHEST_WRONG; by++) {
            h = 31 * h + wrong(by);
        }
        h = 31 * h + earliest();
        for (int i = 0; i < page.letters; i++) {
            h = 31 * h + page.codeAt(i);
        }
        for (int what = 0; what < COUNTS; what++) {
            h = 31 * h + count(what);
        }
        return h;
    }

    private long digestOfPeople(long start) {
        long h = start;
        int all = countPeople();
        for (int i = 0; i < all; i++) {
            for (int what = 0; what < ABOUTS; what++) {
                h = 31 * h + about(i, what);
            }
        }
        return h;
    }

    private long digestOfComing(long start) {
        long h = start;
        for (int ahead = 1; ahead <= FARTHEST_READING; ahead++) {
            h = 31 * h + told(ahead);
        }
        h = digestOfLikely(h, 1);
        h = digestOfLikely(h, DAYS_TO_COME);
        h = 31 * h + likeliest();
        h = 31 * h + ways();
        h = 31 * h + sure(1);
        h = 31 * h + look(2, 5, 0);
        return 31 * h + look(2, 5, 1);
    }

    private long digestOfLikely(long start, int ahead) {
        long h = start;
        for (int weather = 0; weather < WEATHERS; weather++) {
            h = 31 * h + likely(ahead, weather, 0);
            h = 31 * h + likely(ahead, weather, 1);
        }
        return h;
    }

    private static boolean isWeather(int number) {
        return number >= 0 && number < WEATHERS;
    }

    private static boolean isAhead(int number) {
        return number >= 1 && number <= DAYS_TO_COME;
    }

    private static boolean isPart(int number) {
        return number == 0 || number == 1;
    }

    private static boolean isPrice(int number) {
        return number >= 1 && number <= 9;
    }

    private static long lowestTerms(long above, long below, int part) {
        long most = greatestDivisor(above, below);
        long asked = part == 0 ? above : below;
        return most > 0 ? asked / most : asked;
    }

    private static long greatestDivisor(long a, long b) {
        long whole = a;
        long rest = b;
        // Longs need fewer than a hundred steps; the counter shows the end of the loop.
        for (int i = 0; i < 1000 && rest != 0; i++) {
            long next = whole % rest;
            whole = rest;
            rest = next;
        }
        return whole;
    }

    private static Keeper newcomer(int kind, int cost, int loss) {
        switch (kind) {
            case 1:
                return new Farmer(cost, loss);
            case 2:
                return new Miser(cost, loss);
            case 3:
                return new Contrary(cost, loss);
            case 4:
                return new Knees(cost, loss);
            default:
                return new Keeper(cost, loss);
        }
    }

    private static boolean isOfKind(Keeper one, int kind) {
        switch (kind) {
            case 0:
                return true;
            case 1:
                return one instanceof Farmer;
            case 2:
                return one instanceof Miser;
            case 3:
                return one instanceof Contrary;
            default:
                return one instanceof Knees;
        }
    }

    private Keeper personOf(int number) {
        return number >= 0 && number < PEOPLE_MOST ? people[number] : null;
    }

    private int countPeople() {
        int all = 0;
        for (int i = 0; i < PEOPLE_MOST; i++) {
            all += people[i] == null ? 0 : 1;
        }
        return all;
    }

    private int paidByAll() {
        int all = 0;
        for (int i = 0; i < PEOPLE_MOST; i++) {
            Keeper one = people[i];
            all += one == null ? 0 : one.paid;
        }
        return all;
    }

    private static final class Page {
        private static final int MOST = 16, STATION_LETTERS = 14;
        private static final int EARLY_PLACE = 12, SLIP_PLACE = 13, MARK_PLACE = 11, GROUP = 4;

        private final int[] codes = new int[MOST];
        private int letters;

        boolean append(int code) {
            if (letters < 0 || letters >= MOST) {
                return false;
            }
            codes[letters] = code;
            letters++;
            return true;
        }

        int codeAt(int place) {
            return place >= 0 && place < letters && place < MOST ? codes[place] : NONE;
        }

        int digitAt(int place) {
            int code = codeAt(place);
            return code >= '0' && code <= '9' ? code - '0' : NONE;
        }

        boolean isStation() {
            return letters == STATION_LETTERS && firstFault() == STATION_LETTERS;
        }

        int firstFault() {
            for (int place = 0; place < letters; place++) {
                if (!isGoodAt(place)) {
                    return place;
                }
            }
            return letters;
        }

        private boolean isGoodAt(int place) {
            if (place > SLIP_PLACE) {
                return false;
            }
            if (place == SLIP_PLACE) {
                return digitAt(place) != NONE;
            }
            if (place == EARLY_PLACE) {
                return digitAt(place) >= 1 && digitAt(place) <= FARTHEST_READING;
            }
            if (place == MARK_PLACE) {
                return codeAt(place) == ';';
            }
            return place % GROUP == GROUP - 1 ? codeAt(place) == '/' : isGoodTenths(place);
        }

        private boolean isGoodTenths(int place) {
            int together = 0;
            for (int i = place - place % GROUP; i <= place; i++) {
                if (digitAt(i) == NONE) {
                    return false;
                }
                together += digitAt(i);
            }
            return place % GROUP == WEATHERS - 1 ? together == TEN : together <= TEN;
        }
    }

    private static final class Station {
        private final int[] tenths = new int[WEATHERS * WEATHERS];
        private int early;
        private int slip;

        boolean isRead() {
            return early > 0;
        }

        void read(Page page) {
            for (int v = 0; v < WEATHERS; v++) {
                for (int w = 0; w < WEATHERS; w++) {
                    tenths[v * WEATHERS + w] = page.digitAt(v * Page.GROUP + w);
                }
            }
            early = page.digitAt(Page.EARLY_PLACE);
            slip = page.digitAt(Page.SLIP_PLACE);
        }

        int tenthsFrom(int v, int w) {
            boolean named = v >= 0 && v < WEATHERS && w >= 0 && w < WEATHERS;
            return named ? tenths[v * WEATHERS + w] : 0;
        }

        /** What a READING (or NONE) adds to the ODDS of a DAY of that WEATHER, as a factor. */
        int fit(int reading, int weather) {
            if (reading == NONE) {
                return 1;
            }
            if (reading == weather) {
                return TEN - slip;
            }
            return reading == (weather + 1) % WEATHERS ? slip : 0;
        }
    }

    /** The DAY, its WEATHER and the READINGS of DAYS to come; what follows is reckoned at each change. */
    private static final class Outlook {
        private final Station station;
        private final int[] readings = new int[FARTHEST_READING + 1];
        private int dayNumber;
        private int weather;

        // By DAYS from now and WEATHER there: the ODDS together of all DAYS until then, of all behind
        // it, the most ODDS of those behind it, and how many of these can be.
        private final long[][] until = new long[DAYS_TO_COME + 1][WEATHERS];
        private final long[][] behind = new long[DAYS_TO_COME + 1][WEATHERS];
        private final long[][] best = new long[DAYS_TO_COME + 1][WEATHERS];
        private final int[][] possible = new int[DAYS_TO_COME + 1][WEATHERS];

        Outlook(Station read) {
            station = read;
            for (int ahead = 0; ahead <= FARTHEST_READING; ahead++) {
                readings[ahead] = NONE;
            }
        }

        void startAnew(int first) {
            dayNumber = 0;
            weather = first;
            for (int ahead = 0; ahead <= FARTHEST_READING; ahead++) {
                readings[ahead] = NONE;
            }
            reckon();
        }

        void copyFrom(Outlook other) {
            dayNumber = other.dayNumber;
            weather = other.weather;
            for (int ahead = 0; ahead <= FARTHEST_READING; ahead++) {
                readings[ahead] = other.readings[ahead];
            }
            reckon();
        }

        void passDay(int next) {
            dayNumber++;
            weather = next;
            for (int ahead = 1; ahead < FARTHEST_READING; ahead++) {
                readings[ahead] = readings[ahead + 1];
            }
            readings[FARTHEST_READING] = NONE;
            reckon();
        }

        /** Takes the READING unless it cannot be. */
        boolean tell(int reading) {
            int ahead = station.early;
            if (ahead < 1 || ahead > FARTHEST_READING) {
                return false;
            }
            int before = readings[ahead];
            readings[ahead] = reading;
            reckon();
            if (allOdds() > 0) {
                return true;
            }
            readings[ahead] = before;
            reckon();
            return false;
        }

        int readingOf(int ahead) {
            return ahead >= 1 && ahead <= FARTHEST_READING ? readings[ahead] : NONE;
        }

        int readingsTold() {
            int all = 0;
            for (int ahead = 1; ahead <= FARTHEST_READING; ahead++) {
                all += readings[ahead] == NONE ? 0 : 1;
            }
            return all;
        }

        long oddsOf(int ahead, int then) {
            if (!isAhead(ahead) || !isWeather(then)) {
                return 0;
            }
            return until[ahead][then] * behind[ahead][then];
        }

        long allOdds() {
            long all = 0;
            for (int w = 0; w < WEATHERS; w++) {
                all += until[DAYS_TO_COME][w];
            }
            return all;
        }

        int possibleDays() {
            return isWeather(weather) ? possible[0][weather] : 0;
        }

        int sureWeather(int ahead) {
            int found = NONE;
            for (int w = 0; w < WEATHERS; w++) {
                if (oddsOf(ahead, w) > 0) {
                    if (found != NONE) {
                        return NONE;
                    }
                    found = w;
                }
            }
            return found;
        }

        int numberOfMostOdds() {
            int number = 0;
            int from = weather;
            for (int ahead = 1; ahead <= DAYS_TO_COME; ahead++) {
                int to = 0;
                long most = 0;
                for (int w = 0; w < WEATHERS; w++) {
                    long odds = stepOdds(ahead, from, w) * best[ahead][w];
                    // Only more odds replace an earlier weather, so the least number stays.
                    if (odds > most) {
                        most = odds;
                        to = w;
                    }
                }
                number = number * WEATHERS + to;
                from = to;
            }
            return number;
        }

        /** The cheaper of COVERING and not, for the next DAY, times the ODDS with one more READING (or NONE). */
        long meanByKnowing(int reading, int cost, int loss) {
            long all = 0;
            for (int w = 0; w < WEATHERS; w++) {
                all += oddsOf(1, w) * station.fit(reading, w);
            }
            long wet = oddsOf(1, WET) * station.fit(reading, WET);
            return Math.min(cost * all, loss * wet);
        }

        private void reckon() {
            reckonBehind();
            reckonUntil();
        }

        private void reckonBehind() {
            for (int w = 0; w < WEATHERS; w++) {
                behind[DAYS_TO_COME][w] = 1;
                best[DAYS_TO_COME][w] = 1;
                possible[DAYS_TO_COME][w] = 1;
            }
            for (int ahead = DAYS_TO_COME - 1; ahead >= 0; ahead--) {
                for (int v = 0; v < WEATHERS; v++) {
                    behind[ahead][v] = 0;
                    best[ahead][v] = 0;
                    possible[ahead][v] = 0;
                    for (int w = 0; w < WEATHERS; w++) {
                        long odds = stepOdds(ahead + 1, v, w);
                        behind[ahead][v] += odds * behind[ahead + 1][w];
                        best[ahead][v] = Math.max(best[ahead][v], odds * best[ahead + 1][w]);
                        possible[ahead][v] += odds > 0 ? possible[ahead + 1][w] : 0;
                    }
                }
            }
        }

        private void reckonUntil() {
            for (int w = 0; w < WEATHERS; w++) {
                until[0][w] = w == weather ? 1 : 0;
            }
            for (int ahead = 1; ahead <= DAYS_TO_COME; ahead++) {
                for (int w = 0; w < WEATHERS; w++) {
                    until[ahead][w] = 0;
                    for (int v = 0; v < WEATHERS; v++) {
                        until[ahead][w] += until[ahead - 1][v] * stepOdds(ahead, v, w);
                    }
                }
            }
        }

        private long stepOdds(int ahead, int from, int to) {
            return (long) station.tenthsFrom(from, to) * station.fit(readingOf(ahead), to);
        }
    }

    private static class Keeper {
        final int cost;
        final int loss;
        int paid;

        Keeper(int toCover, int byWet) {
            cost = toCover;
            loss = byWet;
        }

        int kindNumber() {
            return 0;
        }

        boolean covers(Outlook coming) {
            return coming.readingOf(1) == WET;
        }

        final int payment(Outlook coming, int weather) {
            if (covers(coming)) {
                return cost;
            }
            return weather == WET ? loss : 0;
        }
    }

    private static final class Farmer extends Keeper {
        Farmer(int toCover, int byWet) {
            super(toCover, byWet);
        }

        int kindNumber() {
            return 1;
        }

        boolean covers(Outlook coming) {
            return loss * coming.oddsOf(1, WET) > cost * coming.allOdds();
        }
    }

    private static final class Miser extends Keeper {
        Miser(int toCover, int byWet) {
            super(toCover, byWet);
        }

        int kindNumber() {
            return 2;
        }

        boolean covers(Outlook coming) {
            return coming.sureWeather(1) == WET;
        }
    }

    private static class Contrary extends Keeper {
        Contrary(int toCover, int byWet) {
            super(toCover, byWet);
        }

        int kindNumber() {
            return 3;
        }

        boolean covers(Outlook coming) {
            return !super.covers(coming);
        }
    }

    private static final class Knees extends Contrary {
        Knees(int toCover, int byWet) {
            super(toCover, byWet);
        }

        int kindNumber() {
            return 4;
        }

        boolean covers(Outlook coming) {
            return coming.readingOf(1) != NONE && super.covers(coming);
        }
    }

    private static final class Book {
        private static final int MOST = 12;

        private final int[] weathers = new int[MOST];
        private final int[] readings = new int[MOST];
        private int days;

        boolean append(int weather, int reading) {
            if (days < 0 || days >= MOST) {
                return false;
            }
            weathers[days] = weather;
            readings[days] = reading;
            days++;
            return true;
        }

        void copyFrom(Book other) {
            days = other.days;
            for (int i = 0; i < MOST; i++) {
                weathers[i] = other.weathers[i];
                readings[i] = other.readings[i];
            }
        }

        int readingsSeen(int by) {
            int seen = 0;
            for (int i = 0; i < MOST; i++) {
                seen += isSeen(i, by) ? 1 : 0;
            }
            return seen;
        }

        int wrongReadings(int by) {
            int wrong = 0;
            for (int i = 0; i < MOST; i++) {
                int then = i + by;
                if (isSeen(i, by) && then >= 0 && then < MOST && readings[i] != weathers[then]) {
                    wrong++;
                }
            }
            return wrong;
        }

        private boolean isSeen(int i, int by) {
            return i >= 0 && i < MOST && i + by < days && readings[i] != NONE;
        }
    }

    /** DAYS by a SEED, in an outlook of their own, so that nothing of the day now is touched. */
    private static final class Trial {
        private final Station station;
        private final Outlook coming;
        // [0] is the weather now, [1] that of the next day, and so on.
        private final int[] drawn = new int[FARTHEST_READING + 1];
        private int drawnAhead;
        private long seed;
        private int wet;
        private int paid;
        private int slipped;

        Trial(Station read, Outlook own) {
            station = read;
            coming = own;
        }

        void begin(int firstSeed, int weather) {
            coming.startAnew(weather);
            drawn[0] = weather;
            drawnAhead = 0;
            seed = firstSeed;
            wet = 0;
            paid = 0;
            slipped = 0;
        }

        void tellOne() {
            int right = DRY;
            for (int ahead = 1; ahead <= FARTHEST_READING && ahead <= station.early; ahead++) {
                if (ahead > drawnAhead) {
                    drawn[ahead] = drawWeather(drawn[ahead - 1]);
                    drawnAhead = ahead;
                }
                right = drawn[ahead];
            }
            boolean slips = draw() < station.slip;
            slipped += slips ? 1 : 0;
            coming.tell(slips ? (right + 1) % WEATHERS : right);
        }

        void passOne(Keeper[] people) {
            int next = drawn[1];
            for (int i = 0; i < people.length; i++) {
                Keeper one = people[i];
                paid += one == null ? 0 : one.payment(coming, next);
            }
            wet += next == WET ? 1 : 0;
            coming.passDay(next);
            for (int ahead = 0; ahead < FARTHEST_READING; ahead++) {
                drawn[ahead] = drawn[ahead + 1];
            }
            drawnAhead--;
        }

        private int drawWeather(int from) {
            int drawing = draw();
            int first = station.tenthsFrom(from, 0);
            if (drawing < first) {
                return 0;
            }
            return drawing < first + station.tenthsFrom(from, 1) ? 1 : 2;
        }

        private int draw() {
            seed = (1103515245L * seed + 12345L) % 2147483648L;
            return (int) (seed / 65536 % TEN);
        }
    }

    private static final class Image {
        private final Outlook coming;
        private final Book book;
        private final int[] paid = new int[PEOPLE_MOST];
        private int people;
        private boolean kept;

        Image(Outlook ownOutlook, Book ownBook) {
            coming = ownOutlook;
            book = ownBook;
        }
    }
}
