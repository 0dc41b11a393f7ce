/**
 * A street whose houses are numbered by when a child was last born in them.
 * The rules, as numbered promises, are in ../shared/DOC.md.
 */
public final class BirthStreet {
    public static final int NONE = -1, UNKNOWN = -101, OUTSIDE = -102, STATE = -103, FULL = -104;

    private static final int HOUSE = 0, TWINS = 1, MAID = 2, CRADLE = 3, BURNT = 4;
    private static final String KIND_LETTERS = "htmcb";

    private static final int FEWEST_HOUSES = 2, MOST_HOUSES = 6;
    private static final int SIGNS_OF_A_HOUSE = 3;
    private static final int LONGEST_STREET = MOST_HOUSES * SIGNS_OF_A_HOUSE - 1;
    private static final int FIRST_CODE = 32, LAST_CODE = 126, LONGEST_PAGE = 19;

    private static final int LAST_DAY = 30, GREATEST_AGE_AT_FIRST = 9;
    private static final int UNLIKE_NUMBERS = GREATEST_AGE_AT_FIRST + LAST_DAY + 1;
    private static final int LAST_NUMBER = 99, LONGEST_WAIT = 99;
    private static final int MOST_DEBTS = 6, LEAST_DEBT = 1, GREATEST_DEBT = 9;
    private static final int MOST_HEARD = 6;
    private static final int GREATEST_CHEAP = 400, CHEAP_IN_THE_DIGEST = 9;
    private static final int LAST_YEARS = 60;
    private static final int LAST_ABOUT = 5, LAST_COUNT = 9;

    private static final long SEED_FACTOR = 1103515245L, SEED_STEP = 12345L, SEED_REST = 2147483648L;
    private static final int DRAW_DIVISOR = 65536;
    private static final long DIGEST_START = 1033L, DIGEST_FACTOR = 31L;

    private final Row page = new Row(LONGEST_PAGE);
    private int letters = 0;

    private int houses = 0;
    private int streetsRead = 0;
    private final Row kinds = new Row(MOST_HOUSES);

    private final Moment now = new Moment();
    private final Moment kept = new Moment();
    private boolean isKept = false;

    private final Row wouldBe = new Row(MOST_HOUSES);
    private final Row possible = new Row(LAST_DAY + 1);
    private final Row tally = new Row(UNLIKE_NUMBERS);

    public BirthStreet() {
    }

    // ---- the street

    public int letter(int code) {
        if (code < FIRST_CODE || code > LAST_CODE) {
            return OUTSIDE;
        }
        if (letters >= LONGEST_PAGE) {
            return FULL;
        }
        page.put(letters, code);
        letters++;
        return letters;
    }

    public int blank() {
        int had = letters;
        letters = 0;
        return had;
    }

    public int fault() {
        for (int place = 0; place < letters; place++) {
            if (!canStandAt(place, page.at(place))) {
                return place;
            }
        }
        return letters;
    }

    public int street() {
        int many = housesOnPage();
        if (many < FEWEST_HOUSES) {
            return STATE;
        }
        houses = many;
        now.startAnew();
        for (int house = 0; house < houses; house++) {
            int place = house * SIGNS_OF_A_HOUSE;
            kinds.put(house, kindOfLetter(page.at(place)));
            now.ages.put(house, page.at(place + 1) - '0');
        }
        isKept = false;
        letters = 0;
        streetsRead++;
        return houses;
    }

    // ---- houses, days

    public int about(int house, int what) {
        if (!isHouse(house)) {
            return UNKNOWN;
        }
        if (what < 0 || what > LAST_ABOUT) {
            return OUTSIDE;
        }
        switch (what) {
            case 0:
                return kinds.at(house);
            case 1:
                return now.ages.at(house);
            case 2:
                return numberNow(house);
            case 3:
                return now.birthsIn.at(house);
            case 4:
                return owedBy(house);
            default:
                return turnInWalk(now.ages, house);
        }
    }

    public int as(int house, int kind) {
        if (!isHouse(house)) {
            return UNKNOWN;
        }
        if (kind < HOUSE || kind > BURNT) {
            return OUTSIDE;
        }
        return isA(kinds.at(house), kind) ? house : NONE;
    }

    public int birth(int house) {
        if (!isHouse(house)) {
            return UNKNOWN;
        }
        if (isA(kinds.at(house), MAID)) {
            return STATE;
        }
        bear(now.ages, house);
        now.births++;
        now.birthsIn.add(house, 1);
        if (!lendsACradle(house)) {
            return 1;
        }
        now.birthsIn.add(house + 1, 1);
        return 2;
    }

    public int day() {
        if (houses == 0) {
            return STATE;
        }
        if (now.today >= LAST_DAY) {
            return FULL;
        }
        for (int house = 0; house < houses; house++) {
            now.pastAges.put(cellOf(house, now.today), now.ages.at(house));
        }
        growOlder(now.ages);
        now.today++;
        return now.today;
    }

    public int then(int house, int day) {
        if (!isHouse(house) || !isDay(day)) {
            return UNKNOWN;
        }
        return numberOn(house, day);
    }

    public int goesTo(int number, int day) {
        if (!isDay(day)) {
            return UNKNOWN;
        }
        return houseWith(number, day);
    }

    public int walk() {
        if (houses == 0) {
            return STATE;
        }
        return lengthOfWalk(now.ages);
    }

    // ---- debts

    public int debt(int much, int number) {
        if (much < LEAST_DEBT || much > GREATEST_DEBT || number < 0 || number > LAST_NUMBER) {
            return OUTSIDE;
        }
        if (houses == 0) {
            return STATE;
        }
        if (now.debts >= MOST_DEBTS) {
            return FULL;
        }
        now.debtAmounts.put(now.debts, much);
        now.debtNumbers.put(now.debts, number);
        now.debts++;
        return now.debts;
    }

    public int pay() {
        int together = 0;
        for (int debt = 0; debt < now.debts; debt++) {
            together += now.debtAmounts.at(debt);
        }
        now.debts = 0;
        return together;
    }

    // ---- what would be

    public int cheap(int much, int what) {
        if (much < 0 || much > GREATEST_CHEAP || what < 0 || what > 1) {
            return OUTSIDE;
        }
        if (houses == 0) {
            return STATE;
        }
        int set = cheapestSet(much);
        if (set == NONE) {
            return NONE;
        }
        return what == 0 ? Integer.bitCount(set) : set;
    }

    public int when(int house, int number) {
        if (!isHouse(house)) {
            return UNKNOWN;
        }
        int kind = kinds.at(house);
        int age = now.ages.at(house);
        for (int days = 0; days <= LONGEST_WAIT; days++) {
            if (numberOf(kind, age) == number) {
                return days;
            }
            age = ageNextDay(kind, age);
        }
        return NONE;
    }

    // ---- what is heard

    public int hear(int house, int number) {
        if (!isHouse(house)) {
            return UNKNOWN;
        }
        if (number < 0 || number > LAST_NUMBER) {
            return OUTSIDE;
        }
        if (now.heard >= MOST_HEARD) {
            return FULL;
        }
        now.heardHouses.put(now.heard, house);
        now.heardNumbers.put(now.heard, number);
        now.heard++;
        return now.heard;
    }

    public int forget() {
        int was = now.heard;
        now.heard = 0;
        return was;
    }

    public int days(int what) {
        if (what < 0 || what > 1) {
            return OUTSIDE;
        }
        if (houses == 0) {
            return STATE;
        }
        int many = 0;
        int least = NONE;
        for (int day = now.today; day >= 0; day--) {
            if (canHaveBeen(day)) {
                many++;
                least = day;
            }
        }
        return what == 0 ? many : least;
    }

    public int ask() {
        if (houses == 0) {
            return STATE;
        }
        if (markPossibleDays() == 0) {
            return NONE;
        }
        int best = NONE;
        int fewest = 0;
        for (int house = 0; house < houses; house++) {
            int left = mostLeftBy(house);
            if (best == NONE || left < fewest) {
                best = house;
                fewest = left;
            }
        }
        return best;
    }

    public int years(int days, int seed, int what) {
        if (days < 1 || days > LAST_YEARS || seed < 0 || what < 0 || what > 2) {
            return OUTSIDE;
        }
        if (houses == 0) {
            return STATE;
        }
        wouldBe.take(now.ages);
        int next = seed;
        int walks = 0;
        for (int gone = 0; gone < days; gone++) {
            next = nextSeed(next);
            bearIfMayBe(wouldBe, drawnHouse(next));
            walks += lengthOfWalk(wouldBe);
            growOlder(wouldBe);
        }
        if (what == 0) {
            return walks;
        }
        return what == 1 ? allNumbers(wouldBe) : next;
    }

    // ---- what is told of all

    public int image() {
        if (houses == 0) {
            return STATE;
        }
        kept.take(now);
        isKept = true;
        return now.today;
    }

    public int restore() {
        if (!isKept) {
            return STATE;
        }
        now.take(kept);
        return now.today;
    }

    public int count(int what) {
        switch (what) {
            case 0:
                return houses;
            case 1:
                return now.today;
            case 2:
                return now.births;
            case 3:
                return allNumbers(now.ages);
            case 4:
                return unlikeNumbers();
            case 5:
                return now.debts;
            case 6:
                return owedByAll();
            case 7:
                return now.heard;
            case 8:
                return letters;
            case 9:
                return streetsRead;
            default:
                return OUTSIDE;
        }
    }

    public long digest() {
        long h = DIGEST_START;
        for (int house = 0; house < houses; house++) {
            h = withHouse(h, house);
        }
        if (houses > 0) {
            h = with(h, walk());
            h = with(h, cheap(CHEAP_IN_THE_DIGEST, 0));
            h = with(h, cheap(CHEAP_IN_THE_DIGEST, 1));
            h = with(h, days(0));
            h = with(h, days(1));
            h = with(h, ask());
        }
        for (int place = 0; place < letters; place++) {
            h = with(h, page.at(place));
        }
        for (int what = 0; what <= LAST_COUNT; what++) {
            h = with(h, count(what));
        }
        return h;
    }

    private long withHouse(long start, int house) {
        long h = start;
        for (int what = 0; what <= LAST_ABOUT; what++) {
            h = with(h, about(house, what));
        }
        for (int day = 0; day <= now.today; day++) {
            h = with(h, numberOn(house, day));
        }
        return h;
    }

    private static long with(long h, int number) {
        return DIGEST_FACTOR * h + number;
    }

    // ---- reading the page

    private static boolean canStandAt(int place, int code) {
        if (place >= LONGEST_STREET) {
            return false;
        }
        switch (place % SIGNS_OF_A_HOUSE) {
            case 0:
                return kindOfLetter(code) != NONE;
            case 1:
                return code >= '0' && code <= '9';
            default:
                return code == ',';
        }
    }

    private static int kindOfLetter(int code) {
        for (int kind = 0; kind < KIND_LETTERS.length(); kind++) {
            if (KIND_LETTERS.charAt(kind) == code) {
                return kind;
            }
        }
        return NONE;
    }

    /** How many whole houses the page tells, with nothing behind them; 0 if it tells none so. */
    private int housesOnPage() {
        boolean endsBehindAnAge = letters % SIGNS_OF_A_HOUSE == 2;
        if (!endsBehindAnAge || fault() != letters) {
            return 0;
        }
        return (letters + 1) / SIGNS_OF_A_HOUSE;
    }

    // ---- kinds

    private static boolean isA(int kind, int wanted) {
        return wanted == HOUSE || wanted == kind || wanted == MAID && kind == BURNT;
    }

    private static int numberOf(int kind, int age) {
        return kind == TWINS ? age / 2 : age;
    }

    private static int ageNextDay(int kind, int age) {
        return kind == BURNT ? age : age + 1;
    }

    // ---- houses at given ages

    private boolean isHouse(int house) {
        return house >= 0 && house < houses;
    }

    private boolean lendsACradle(int house) {
        return isHouse(house + 1) && isA(kinds.at(house + 1), CRADLE);
    }

    private void bear(Row ages, int house) {
        ages.put(house, 0);
        if (lendsACradle(house)) {
            ages.put(house + 1, 0);
        }
    }

    private void bearIfMayBe(Row ages, int house) {
        if (!isA(kinds.at(house), MAID)) {
            bear(ages, house);
        }
    }

    private void growOlder(Row ages) {
        for (int house = 0; house < houses; house++) {
            ages.put(house, ageNextDay(kinds.at(house), ages.at(house)));
        }
    }

    private int numberAt(Row ages, int house) {
        return numberOf(kinds.at(house), ages.at(house));
    }

    private int allNumbers(Row ages) {
        int together = 0;
        for (int house = 0; house < houses; house++) {
            together += numberAt(ages, house);
        }
        return together;
    }

    private int turnInWalk(Row ages, int house) {
        int number = numberAt(ages, house);
        int ahead = 0;
        for (int other = 0; other < houses; other++) {
            int otherNumber = numberAt(ages, other);
            if (otherNumber < number || otherNumber == number && other < house) {
                ahead++;
            }
        }
        return ahead;
    }

    private int houseOfTurn(Row ages, int turn) {
        for (int house = 0; house < houses; house++) {
            if (turnInWalk(ages, house) == turn) {
                return house;
            }
        }
        return 0;
    }

    private int lengthOfWalk(Row ages) {
        int far = 0;
        int place = 0;
        for (int turn = 0; turn < houses; turn++) {
            int next = houseOfTurn(ages, turn);
            far += Math.abs(next - place);
            place = next;
        }
        return far;
    }

    // ---- numbers now and on earlier days

    private boolean isDay(int day) {
        return houses > 0 && day >= 0 && day <= now.today;
    }

    private static int cellOf(int house, int day) {
        return day * MOST_HOUSES + house;
    }

    private int numberNow(int house) {
        return numberAt(now.ages, house);
    }

    private int numberOn(int house, int day) {
        int age = day == now.today ? now.ages.at(house) : now.pastAges.at(cellOf(house, day));
        return numberOf(kinds.at(house), age);
    }

    private int houseWith(int number, int day) {
        for (int house = 0; house < houses; house++) {
            if (numberOn(house, day) == number) {
                return house;
            }
        }
        return NONE;
    }

    private int unlikeNumbers() {
        int unlike = 0;
        for (int house = 0; house < houses; house++) {
            if (houseWith(numberNow(house), now.today) == house) {
                unlike++;
            }
        }
        return unlike;
    }

    // ---- who owes

    private int owedBy(int house) {
        int much = 0;
        for (int debt = 0; debt < now.debts; debt++) {
            if (houseWith(now.debtNumbers.at(debt), now.today) == house) {
                much += now.debtAmounts.at(debt);
            }
        }
        return much;
    }

    private int owedByAll() {
        int much = 0;
        for (int house = 0; house < houses; house++) {
            much += owedBy(house);
        }
        return much;
    }

    // ---- what would be by births

    /** The sets are tried from the least on, so of as few births the first one found is the least. */
    private int cheapestSet(int much) {
        int best = NONE;
        for (int set = 0; set < 1 << houses; set++) {
            boolean fewer = best == NONE || Integer.bitCount(set) < Integer.bitCount(best);
            if (fewer && mayAllBear(set) && numbersBy(set) <= much) {
                best = set;
            }
        }
        return best;
    }

    private static boolean isIn(int set, int house) {
        return (set >> house & 1) == 1;
    }

    private boolean mayAllBear(int set) {
        for (int house = 0; house < houses; house++) {
            if (isIn(set, house) && isA(kinds.at(house), MAID)) {
                return false;
            }
        }
        return true;
    }

    private int numbersBy(int set) {
        wouldBe.take(now.ages);
        for (int house = 0; house < houses; house++) {
            if (isIn(set, house)) {
                bear(wouldBe, house);
            }
        }
        return allNumbers(wouldBe);
    }

    // ---- the day of a stamp

    private boolean canHaveBeen(int day) {
        for (int fact = 0; fact < now.heard; fact++) {
            if (numberOn(now.heardHouses.at(fact), day) != now.heardNumbers.at(fact)) {
                return false;
            }
        }
        return true;
    }

    /** Marks the days that can have been and tells how many they are. */
    private int markPossibleDays() {
        int many = 0;
        for (int day = 0; day <= now.today; day++) {
            boolean can = canHaveBeen(day);
            possible.put(day, can ? 1 : 0);
            if (can) {
                many++;
            }
        }
        return many;
    }

    /** How many of the marked days are left at worst when a house has told its number. */
    private int mostLeftBy(int house) {
        tally.clear();
        int most = 0;
        for (int day = 0; day <= now.today; day++) {
            if (possible.at(day) == 1) {
                int number = numberOn(house, day);
                tally.add(number, 1);
                most = Math.max(most, tally.at(number));
            }
        }
        return most;
    }

    // ---- draws

    private static int nextSeed(int seed) {
        return (int) ((SEED_FACTOR * seed + SEED_STEP) % SEED_REST);
    }

    private int drawnHouse(int seed) {
        return houses < 1 ? 0 : seed / DRAW_DIVISOR % houses;
    }

    /** A row of numbers that is 0 outside and takes nothing there, so that no index can fail. */
    private static final class Row {
        private final int[] cells;

        Row(int length) {
            cells = new int[length < 0 ? 0 : length];
        }

        int at(int place) {
            return place >= 0 && place < cells.length ? cells[place] : 0;
        }

        void put(int place, int number) {
            if (place >= 0 && place < cells.length) {
                cells[place] = number;
            }
        }

        void add(int place, int more) {
            put(place, at(place) + more);
        }

        void clear() {
            for (int place = 0; place < cells.length; place++) {
                cells[place] = 0;
            }
        }

        void take(Row other) {
            for (int place = 0; place < cells.length; place++) {
                cells[place] = other.at(place);
            }
        }
    }

    /** All that an image keeps. */
    private static final class Moment {
        private int today = 0;
        private int births = 0;
        private int debts = 0;
        private int heard = 0;
        private final Row ages = new Row(MOST_HOUSES);
        private final Row pastAges = new Row(LAST_DAY * MOST_HOUSES);
        private final Row birthsIn = new Row(MOST_HOUSES);
        private final Row debtAmounts = new Row(MOST_DEBTS);
        private final Row debtNumbers = new Row(MOST_DEBTS);
        private final Row heardHouses = new Row(MOST_HEARD);
        private final Row heardNumbers = new Row(MOST_HEARD);

        void startAnew() {
            today = 0;
            births = 0;
            debts = 0;
            heard = 0;
            birthsIn.clear();
        }

        void take(Moment other) {
            today = other.today;
            births = other.births;
            debts = other.debts;
            heard = other.heard;
            ages.take(other.ages);
            pastAges.take(other.pastAges);
            birthsIn.take(other.birthsIn);
            debtAmounts.take(other.debtAmounts);
            debtNumbers.take(other.debtNumbers);
            heardHouses.take(other.heardHouses);
            heardNumbers.take(other.heardNumbers);
        }
    }
}
