import java.math.BigInteger;
import java.util.ArrayList;
import java.util.HashMap;
import java.util.List;
import java.util.Map;

/** A second reading of the document, slow and plain: all six days to come are counted out. */
final class Model {
    static final int NONE = -1, UNKNOWN = -101, OUTSIDE = -102, STATE = -103, FULL = -104;
    private static final int SIX_DAYS = 729;

    private static final class Sky {
        int now;
        int weather;
        Map<Integer, Integer> readings = new HashMap<>();

        Sky copy() {
            Sky other = new Sky();
            other.now = now;
            other.weather = weather;
            other.readings.putAll(readings);
            return other;
        }
    }

    private record Kept(Sky sky, List<Integer> paid, List<int[]> book) { }

    private String page = "";
    private int[][] tenths;
    private int early;
    private int slip;
    private Sky sky = new Sky();
    private List<int[]> people = new ArrayList<>();
    private List<int[]> book = new ArrayList<>();
    private Kept kept;
    private int stations;

    int letter(int code) {
        if (code < 32 || code > 126) {
            return OUTSIDE;
        }
        if (page.length() == 16) {
            return FULL;
        }
        page += (char) code;
        return page.length();
    }

    int blank() {
        int had = page.length();
        page = "";
        return had;
    }

    int fault() {
        for (int length = 1; length <= page.length(); length++) {
            if (!begins(page.substring(0, length))) {
                return length - 1;
            }
        }
        return page.length();
    }

    private static boolean begins(String text) {
        String whole = text + "000/000/000;10".substring(Math.min(14, text.length()));
        if (!whole.matches("\\d\\d\\d/\\d\\d\\d/\\d\\d\\d;[1-4]\\d")) {
            return false;
        }
        for (int first = 0; first < 11; first += 4) {
            int sum = 0;
            int told = 0;
            for (int i = first; i < first + 3 && i < text.length(); i++) {
                sum += text.charAt(i) - '0';
                told++;
            }
            if (sum > 10 || (told == 3 && sum < 10)) {
                return false;
            }
        }
        return true;
    }

    int station() {
        if (page.length() != 14 || !begins(page)) {
            return STATE;
        }
        tenths = new int[3][3];
        for (int v = 0; v < 3; v++) {
            for (int w = 0; w < 3; w++) {
                tenths[v][w] = page.charAt(4 * v + w) - '0';
            }
        }
        early = page.charAt(12) - '0';
        slip = page.charAt(13) - '0';
        page = "";
        sky = new Sky();
        people = new ArrayList<>();
        book = new ArrayList<>();
        kept = null;
        stations++;
        return early;
    }

    int follows(int v, int w) {
        if (!weather(v) || !weather(w)) {
            return UNKNOWN;
        }
        return tenths == null ? STATE : tenths[v][w];
    }

    int reading(int weather) {
        if (!weather(weather)) {
            return UNKNOWN;
        }
        if (tenths == null) {
            return STATE;
        }
        Sky then = sky.copy();
        then.readings.put(then.now + early, weather);
        if (all(then) == 0) {
            return STATE;
        }
        sky = then;
        return told(sky);
    }

    private static int told(Sky sky) {
        return (int) sky.readings.keySet().stream().filter(day -> day > sky.now).count();
    }

    int told(int ahead) {
        if (ahead < 1 || ahead > 4) {
            return UNKNOWN;
        }
        return tenths == null ? STATE : told(sky, ahead);
    }

    private static int told(Sky sky, int ahead) {
        return sky.readings.getOrDefault(sky.now + ahead, NONE);
    }

    int day(int weather) {
        if (!weather(weather)) {
            return UNKNOWN;
        }
        if (tenths == null || odds(sky, 1, weather) == 0) {
            return STATE;
        }
        for (int[] one : people) {
            one[3] += pays(one, sky, weather);
        }
        sky.now++;
        sky.weather = weather;
        return sky.now;
    }

    int person(int kind, int cost, int loss) {
        if (kind < 0 || kind > 4 || !price(cost) || !price(loss)) {
            return OUTSIDE;
        }
        if (tenths == null) {
            return STATE;
        }
        if (people.size() == 4) {
            return FULL;
        }
        people.add(new int[] {kind, cost, loss, 0});
        return people.size() - 1;
    }

    int about(int person, int what) {
        if (person < 0 || person >= people.size()) {
            return UNKNOWN;
        }
        if (what < 0 || what > 4) {
            return OUTSIDE;
        }
        int[] one = people.get(person);
        return what < 4 ? one[what] : covers(one, sky) ? 1 : 0;
    }

    int as(int person, int kind) {
        if (person < 0 || person >= people.size()) {
            return UNKNOWN;
        }
        if (kind < 0 || kind > 4) {
            return OUTSIDE;
        }
        int own = people.get(person)[0];
        return kind == 0 || kind == own || (kind == 3 && own == 4) ? person : NONE;
    }

    long likely(int ahead, int weather, int part) {
        if (ahead < 1 || ahead > 6 || !weather(weather)) {
            return UNKNOWN;
        }
        if (part != 0 && part != 1) {
            return OUTSIDE;
        }
        return tenths == null ? STATE : lowest(odds(sky, ahead, weather), all(sky), part);
    }

    int likeliest() {
        if (tenths == null) {
            return STATE;
        }
        int found = 0;
        for (int days = 1; days < SIX_DAYS; days++) {
            if (oddsOf(sky, days) > oddsOf(sky, found)) {
                found = days;
            }
        }
        return found;
    }

    int ways() {
        if (tenths == null) {
            return STATE;
        }
        int all = 0;
        for (int days = 0; days < SIX_DAYS; days++) {
            all += oddsOf(sky, days) > 0 ? 1 : 0;
        }
        return all;
    }

    int sure(int ahead) {
        if (ahead < 1 || ahead > 6) {
            return UNKNOWN;
        }
        return tenths == null ? STATE : sure(sky, ahead);
    }

    private int sure(Sky of, int ahead) {
        for (int weather = 0; weather < 3; weather++) {
            if (odds(of, ahead, weather) == all(of)) {
                return weather;
            }
        }
        return NONE;
    }

    long look(int cost, int loss, int part) {
        if (!price(cost) || !price(loss) || (part != 0 && part != 1)) {
            return OUTSIDE;
        }
        if (tenths == null) {
            return STATE;
        }
        long without = 10 * Math.min(cost * all(sky), loss * odds(sky, 1, 1));
        long with = 0;
        for (int reading = 0; reading < 3; reading++) {
            long any = 0;
            for (int weather = 0; weather < 3; weather++) {
                any += odds(sky, 1, weather) * factor(reading, weather);
            }
            with += Math.min(cost * any, loss * odds(sky, 1, 1) * factor(reading, 1));
        }
        return lowest(without - with, 10 * all(sky), part);
    }

    int book(int weather, int reading) {
        if (!weather(weather) || !(reading == NONE || weather(reading))) {
            return UNKNOWN;
        }
        if (book.size() == 12) {
            return FULL;
        }
        book.add(new int[] {weather, reading});
        return book.size();
    }

    int forget() {
        int had = book.size();
        book = new ArrayList<>();
        return had;
    }

    int wrong(int by) {
        if (by < 0 || by > 4) {
            return OUTSIDE;
        }
        int all = 0;
        for (int i = 0; i + by < book.size(); i++) {
            int reading = book.get(i)[1];
            all += reading != NONE && reading != book.get(i + by)[0] ? 1 : 0;
        }
        return all;
    }

    int earliest() {
        int found = NONE;
        for (int by = 4; by >= 0; by--) {
            boolean seen = false;
            for (int i = 0; i + by < book.size(); i++) {
                seen |= book.get(i)[1] != NONE;
            }
            if (seen && (found == NONE || wrong(by) <= wrong(found))) {
                found = by;
            }
        }
        return found;
    }

    int days(int days, int seed, int what) {
        if (days < 1 || days > 30 || seed < 0 || what < 0 || what > 3) {
            return OUTSIDE;
        }
        if (tenths == null) {
            return STATE;
        }
        BigInteger[] draws = {BigInteger.valueOf(seed)};
        List<Integer> weathers = new ArrayList<>(List.of(sky.weather));
        Sky then = new Sky();
        then.weather = sky.weather;
        int[] answers = new int[4];
        for (int day = 0; day < days; day++) {
            while (weathers.size() <= day + early) {
                int draw = draw(draws);
                int[] by = tenths[weathers.get(weathers.size() - 1)];
                weathers.add(draw < by[0] ? 0 : draw < by[0] + by[1] ? 1 : 2);
            }
            boolean slips = draw(draws) < slip;
            int right = weathers.get(day + early);
            then.readings.put(day + early, slips ? (right + 1) % 3 : right);
            answers[2] += slips ? 1 : 0;
            int next = weathers.get(day + 1);
            for (int[] one : people) {
                answers[1] += pays(one, then, next);
            }
            answers[0] += next == 1 ? 1 : 0;
            then.now = day + 1;
            then.weather = next;
        }
        answers[3] = draws[0].intValueExact();
        return answers[what];
    }

    private static int draw(BigInteger[] seed) {
        seed[0] = seed[0].multiply(BigInteger.valueOf(1103515245)).add(BigInteger.valueOf(12345))
                .mod(BigInteger.TWO.pow(31));
        return seed[0].divide(BigInteger.valueOf(65536)).mod(BigInteger.TEN).intValueExact();
    }

    int image() {
        if (tenths == null) {
            return STATE;
        }
        List<Integer> paid = new ArrayList<>();
        people.forEach(one -> paid.add(one[3]));
        kept = new Kept(sky.copy(), paid, new ArrayList<>(book));
        return sky.now;
    }

    int restore() {
        if (kept == null) {
            return STATE;
        }
        sky = kept.sky.copy();
        book = new ArrayList<>(kept.book);
        people = new ArrayList<>(people.subList(0, kept.paid.size()));
        for (int i = 0; i < people.size(); i++) {
            people.get(i)[3] = kept.paid.get(i);
        }
        return sky.now;
    }

    int count(int what) {
        if (what < 0 || what > 9) {
            return OUTSIDE;
        }
        int paid = people.stream().mapToInt(one -> one[3]).sum();
        return new int[] {early, slip, sky.now, sky.weather, told(sky), people.size(), paid,
            book.size(), page.length(), stations}[what];
    }

    long digest() {
        List<Long> numbers = new ArrayList<>();
        for (int person = 0; person < people.size(); person++) {
            for (int what = 0; what < 5; what++) {
                numbers.add((long) about(person, what));
            }
        }
        if (tenths != null) {
            for (int ahead = 1; ahead <= 4; ahead++) {
                numbers.add((long) told(ahead));
            }
            for (int ahead = 1; ahead <= 6; ahead += 5) {
                for (int weather = 0; weather < 3; weather++) {
                    numbers.add(likely(ahead, weather, 0));
                    numbers.add(likely(ahead, weather, 1));
                }
            }
            numbers.addAll(List.of((long) likeliest(), (long) ways(), (long) sure(1),
                    look(2, 5, 0), look(2, 5, 1)));
        }
        for (int by = 0; by < 5; by++) {
            numbers.add((long) wrong(by));
        }
        numbers.add((long) earliest());
        page.chars().forEach(code -> numbers.add((long) code));
        for (int what = 0; what < 10; what++) {
            numbers.add((long) count(what));
        }
        long h = 821;
        for (long number : numbers) {
            h = 31 * h + number;
        }
        return h;
    }

    private static boolean weather(int number) {
        return number >= 0 && number <= 2;
    }

    private static boolean price(int number) {
        return number >= 1 && number <= 9;
    }

    private static int weatherOf(int days, int ahead) {
        return Integer.parseInt(String.valueOf(
                String.format("%6s", Integer.toString(days, 3)).replace(' ', '0').charAt(ahead - 1)));
    }

    // Kept, since the text form above is slow.
    private static final int[][] SIX = new int[SIX_DAYS][7];

    static {
        for (int days = 0; days < SIX_DAYS; days++) {
            for (int ahead = 1; ahead <= 6; ahead++) {
                SIX[days][ahead] = weatherOf(days, ahead);
            }
        }
    }

    private long oddsOf(Sky of, int days) {
        long odds = 1;
        int from = of.weather;
        for (int ahead = 1; ahead <= 6 && odds > 0; ahead++) {
            int to = SIX[days][ahead];
            odds *= tenths[from][to];
            int reading = told(of, ahead);
            if (reading != NONE) {
                odds *= factor(reading, to);
            }
            from = to;
        }
        return odds;
    }

    private int factor(int reading, int weather) {
        return reading == weather ? 10 - slip : reading == (weather + 1) % 3 ? slip : 0;
    }

    private long odds(Sky of, int ahead, int weather) {
        long sum = 0;
        for (int days = 0; days < SIX_DAYS; days++) {
            if (SIX[days][ahead] == weather) {
                sum += oddsOf(of, days);
            }
        }
        return sum;
    }

    private long all(Sky of) {
        return odds(of, 1, 0) + odds(of, 1, 1) + odds(of, 1, 2);
    }

    private boolean covers(int[] one, Sky of) {
        int reading = told(of, 1);
        return switch (one[0]) {
            case 0 -> reading == 1;
            case 1 -> one[2] * odds(of, 1, 1) > one[1] * all(of);
            case 2 -> sure(of, 1) == 1;
            case 3 -> reading != 1;
            default -> reading == 0 || reading == 2;
        };
    }

    private int pays(int[] one, Sky of, int weather) {
        return covers(one, of) ? one[1] : weather == 1 ? one[2] : 0;
    }

    private static long lowest(long above, long below, int part) {
        BigInteger most = BigInteger.valueOf(above).gcd(BigInteger.valueOf(below));
        return BigInteger.valueOf(part == 0 ? above : below).divide(most).longValueExact();
    }
}
