import java.util.ArrayList;
import java.util.Arrays;
import java.util.Comparator;
import java.util.List;
import java.util.Random;
import java.util.TreeMap;
import java.util.TreeSet;
import java.util.stream.Collectors;
import java.util.stream.IntStream;

// Calls drawn by a fixed seed on the program and on a model that holds no ages at all:
// it works each age out anew from the text that was read and the list of births.
public final class BirthStreetModel {
    private static final int NONE = -1, UNKNOWN = -101, OUTSIDE = -102, STATE = -103, FULL = -104;
    private static final int OBJECTS = 1500, CALLS = 500;

    private record Birth(int house, int day) {
    }

    private record Pair(int first, int second) {
    }

    private record Moment(int day, List<Birth> births, List<Pair> debts, List<Pair> heard) {
        Moment copy() {
            return new Moment(day, new ArrayList<>(births), new ArrayList<>(debts), new ArrayList<>(heard));
        }
    }

    private static final class Model {
        private String page = "";
        private String[] houses = {};
        private int read = 0;
        private Moment now = new Moment(0, new ArrayList<>(), new ArrayList<>(), new ArrayList<>());
        private Moment kept = null;

        private char kind(int house) {
            return houses[house].charAt(0);
        }

        private boolean maid(int house) {
            return "mb".indexOf(kind(house)) >= 0;
        }

        private boolean house(int house) {
            return house >= 0 && house < houses.length;
        }

        private boolean none() {
            return houses.length == 0;
        }

        private boolean concerns(Birth birth, int house) {
            return birth.house() == house || kind(house) == 'c' && birth.house() == house - 1;
        }

        private int age(int house, int day, List<Birth> births) {
            if (kind(house) == 'b') {
                return houses[house].charAt(1) - '0';
            }
            int last = births.stream().filter(b -> b.day() <= day && concerns(b, house)).mapToInt(Birth::day).max().orElse(-1);
            return last < 0 ? houses[house].charAt(1) - '0' + day : day - last;
        }

        private int number(int house, int day, List<Birth> births) {
            return kind(house) == 't' ? age(house, day, births) >> 1 : age(house, day, births);
        }

        private int number(int house, int day) {
            return number(house, day, now.births());
        }

        private int all(int day, List<Birth> births) {
            return places().map(h -> number(h, day, births)).sum();
        }

        private IntStream places() {
            return IntStream.range(0, houses.length);
        }

        private List<Integer> order(int day, List<Birth> births) {
            return places().boxed().sorted(Comparator.comparingInt((Integer h) -> number(h, day, births)).thenComparing(h -> h))
                .collect(Collectors.toList());
        }

        private int walkOn(int day, List<Birth> births) {
            List<Integer> order = order(day, births);
            int far = order.get(0);
            for (int i = 1; i < order.size(); i++) {
                far += Math.max(order.get(i), order.get(i - 1)) - Math.min(order.get(i), order.get(i - 1));
            }
            return far;
        }

        private int owner(int number, int day) {
            return places().filter(h -> number(h, day) == number).findFirst().orElse(NONE);
        }

        private int owed(int house) {
            return now.debts().stream().filter(d -> owner(d.second(), now.day()) == house).mapToInt(Pair::first).sum();
        }

        private int[] possible() {
            return IntStream.rangeClosed(0, now.day())
                .filter(d -> now.heard().stream().allMatch(f -> number(f.first(), d) == f.second())).toArray();
        }

        long letter(int code) {
            if (code < 32 || code > 126) {
                return OUTSIDE;
            }
            if (page.length() == 19) {
                return FULL;
            }
            page += (char) code;
            return page.length();
        }

        long blank() {
            int had = page.length();
            page = "";
            return had;
        }

        // A text can be the beginning of a street if some filling up behind it makes one.
        private static boolean begins(String text) {
            String whole = "h0,h0,h0,h0,h0,h0";
            return text.length() <= whole.length() && isStreet(text + whole.substring(text.length()));
        }

        private static boolean isStreet(String text) {
            return text.matches("[htmcb][0-9](,[htmcb][0-9]){1,5}");
        }

        long fault() {
            return IntStream.range(0, page.length()).filter(i -> !begins(page.substring(0, i + 1))).findFirst().orElse(page.length());
        }

        long street() {
            if (!isStreet(page)) {
                return STATE;
            }
            houses = page.split(",");
            page = "";
            read++;
            kept = null;
            now = new Moment(0, new ArrayList<>(), new ArrayList<>(), new ArrayList<>());
            return houses.length;
        }

        long about(int house, int what) {
            if (!house(house)) {
                return UNKNOWN;
            }
            return switch (what) {
                case 0 -> "htmcb".indexOf(kind(house));
                case 1 -> age(house, now.day(), now.births());
                case 2 -> number(house, now.day());
                case 3 -> now.births().stream().filter(b -> concerns(b, house)).count();
                case 4 -> owed(house);
                case 5 -> order(now.day(), now.births()).indexOf(house);
                default -> OUTSIDE;
            };
        }

        long as(int house, int kind) {
            if (!house(house)) {
                return UNKNOWN;
            }
            if (kind < 0 || kind > 4) {
                return OUTSIDE;
            }
            String taken = switch (kind(house)) {
                case 'h' -> "h";
                case 't' -> "ht";
                case 'm' -> "hm";
                case 'c' -> "hc";
                default -> "hmb";
            };
            return taken.indexOf("htmcb".charAt(kind)) >= 0 ? house : NONE;
        }

        long birth(int house) {
            if (!house(house)) {
                return UNKNOWN;
            }
            if (maid(house)) {
                return STATE;
            }
            Birth birth = new Birth(house, now.day());
            now.births().add(birth);
            return places().filter(h -> concerns(birth, h)).count();
        }

        long day() {
            if (none()) {
                return STATE;
            }
            if (now.day() == 30) {
                return FULL;
            }
            now = new Moment(now.day() + 1, now.births(), now.debts(), now.heard());
            return now.day();
        }

        long then(int house, int day) {
            return !house(house) || day < 0 || day > now.day() ? UNKNOWN : number(house, day);
        }

        long goesTo(int number, int day) {
            return none() || day < 0 || day > now.day() ? UNKNOWN : owner(number, day);
        }

        long walk() {
            return none() ? STATE : walkOn(now.day(), now.births());
        }

        long debt(int much, int number) {
            if (much < 1 || much > 9 || number < 0 || number > 99) {
                return OUTSIDE;
            }
            if (none()) {
                return STATE;
            }
            if (now.debts().size() == 6) {
                return FULL;
            }
            now.debts().add(new Pair(much, number));
            return now.debts().size();
        }

        long pay() {
            int sum = now.debts().stream().mapToInt(Pair::first).sum();
            now.debts().clear();
            return sum;
        }

        long cheap(int much, int what) {
            if (much < 0 || much > 400 || what < 0 || what > 1) {
                return OUTSIDE;
            }
            if (none()) {
                return STATE;
            }
            int set = IntStream.range(0, 1 << houses.length)
                .filter(s -> places().noneMatch(h -> (s & 1 << h) != 0 && maid(h)))
                .filter(s -> all(now.day(), with(s)) <= much)
                .boxed().min(Comparator.comparingInt((Integer s) -> Integer.bitCount(s)).thenComparing(s -> s)).orElse(NONE);
            return set == NONE ? NONE : what == 0 ? Integer.bitCount(set) : set;
        }

        private List<Birth> with(int set) {
            List<Birth> births = new ArrayList<>(now.births());
            places().filter(h -> (set & 1 << h) != 0).forEach(h -> births.add(new Birth(h, now.day())));
            return births;
        }

        long when(int house, int number) {
            if (!house(house)) {
                return UNKNOWN;
            }
            return IntStream.rangeClosed(0, 99).filter(d -> number(house, now.day() + d) == number).findFirst().orElse(NONE);
        }

        long hear(int house, int number) {
            if (!house(house)) {
                return UNKNOWN;
            }
            if (number < 0 || number > 99) {
                return OUTSIDE;
            }
            if (now.heard().size() == 6) {
                return FULL;
            }
            now.heard().add(new Pair(house, number));
            return now.heard().size();
        }

        long forget() {
            int was = now.heard().size();
            now.heard().clear();
            return was;
        }

        long days(int what) {
            if (what != 0 && what != 1) {
                return OUTSIDE;
            }
            if (none()) {
                return STATE;
            }
            int[] days = possible();
            return what == 0 ? days.length : days.length == 0 ? NONE : days[0];
        }

        long ask() {
            if (none()) {
                return STATE;
            }
            if (possible().length == 0) {
                return NONE;
            }
            return places().boxed().min(Comparator.comparingLong(this::worst).thenComparing(h -> (long) h)).orElse(NONE);
        }

        private long worst(int house) {
            return Arrays.stream(possible()).boxed()
                .collect(Collectors.groupingBy(d -> number(house, d), TreeMap::new, Collectors.counting()))
                .values().stream().mapToLong(n -> n).max().orElse(0);
        }

        long years(int days, int seed, int what) {
            if (days < 1 || days > 60 || seed < 0 || what < 0 || what > 2) {
                return OUTSIDE;
            }
            if (none()) {
                return STATE;
            }
            List<Birth> births = new ArrayList<>(now.births());
            int far = 0;
            int next = seed;
            for (int day = now.day(); day < now.day() + days; day++) {
                next = next * 1103515245 + 12345 & Integer.MAX_VALUE;
                int house = (next >> 16) % houses.length;
                if (!maid(house)) {
                    births.add(new Birth(house, day));
                }
                far += walkOn(day, births);
            }
            return what == 0 ? far : what == 1 ? all(now.day() + days, births) : next;
        }

        long image() {
            if (none()) {
                return STATE;
            }
            kept = now.copy();
            return now.day();
        }

        long restore() {
            if (kept == null) {
                return STATE;
            }
            now = kept.copy();
            return now.day();
        }

        long count(int what) {
            return switch (what) {
                case 0 -> houses.length;
                case 1 -> now.day();
                case 2 -> now.births().size();
                case 3 -> all(now.day(), now.births());
                case 4 -> places().map(h -> number(h, now.day())).boxed().collect(Collectors.toCollection(TreeSet::new)).size();
                case 5 -> now.debts().size();
                case 6 -> now.debts().stream().filter(d -> owner(d.second(), now.day()) != NONE).mapToInt(Pair::first).sum();
                case 7 -> now.heard().size();
                case 8 -> page.length();
                case 9 -> read;
                default -> OUTSIDE;
            };
        }

        long digest() {
            List<Long> told = new ArrayList<>();
            for (int house = 0; house < houses.length; house++) {
                for (int what = 0; what < 6; what++) {
                    told.add(about(house, what));
                }
                for (int day = 0; day <= now.day(); day++) {
                    told.add((long) number(house, day));
                }
            }
            if (!none()) {
                told.addAll(List.of(walk(), cheap(9, 0), cheap(9, 1), days(0), days(1), ask()));
            }
            page.chars().forEach(c -> told.add((long) c));
            for (int what = 0; what < 10; what++) {
                told.add(count(what));
            }
            long h = 1033;
            for (long number : told) {
                h = h * 31 + number;
            }
            return h;
        }
    }

    private final Random random;
    private final BirthStreet real = new BirthStreet();
    private final Model model = new Model();
    private final StringBuilder run = new StringBuilder();
    private int calls = 0;
    private boolean wrong = false;

    private BirthStreetModel(long seed) {
        random = new Random(seed);
    }

    private void same(String call, long got, long want) {
        calls++;
        run.append(call).append(" = ").append(got).append("; ");
        if (got != want && !wrong) {
            wrong = true;
            System.out.println(run + "due is " + want);
        }
    }

    private int edge(int from, int to) {
        int[] beside = {from - 1, to + 1, from, to, Integer.MIN_VALUE, Integer.MAX_VALUE};
        return random.nextInt(8) == 0 ? beside[random.nextInt(6)] : from + random.nextInt(to - from + 1);
    }

    private int anyHouse() {
        return edge(0, model.houses.length == 0 ? 5 : model.houses.length - 1);
    }

    private int anyDay() {
        return edge(0, model.now.day());
    }

    // Mostly a number that somebody has or had.
    private int anyNumber() {
        if (model.none() || random.nextInt(4) == 0) {
            return edge(0, random.nextBoolean() ? 12 : 99);
        }
        return model.number(random.nextInt(model.houses.length), random.nextInt(model.now.day() + 1));
    }

    private void aLetter(int code) {
        same("letter(" + code + ")", real.letter(code), model.letter(code));
    }

    private void aPage() {
        int many = 1 + random.nextInt(7);
        StringBuilder text = new StringBuilder();
        for (int i = 0; i < many; i++) {
            text.append(i == 0 ? "" : ",").append("htmcb".charAt(random.nextInt(5))).append(random.nextInt(10));
        }
        if (random.nextInt(4) == 0) {
            text.setCharAt(random.nextInt(text.length()), "htmcb0189,; ~".charAt(random.nextInt(13)));
        }
        if (random.nextInt(4) == 0) {
            text.setLength(random.nextInt(text.length() + 1));
        }
        if (random.nextInt(8) != 0) {
            same("blank()", real.blank(), model.blank());
        }
        text.chars().forEach(this::aLetter);
        same("fault()", real.fault(), model.fault());
        same("street()", real.street(), model.street());
    }

    private void aTold() {
        int a = anyHouse();
        int b = edge(0, 5);
        int n = anyNumber();
        int d = anyDay();
        switch (random.nextInt(13)) {
            case 0 -> same("about(" + a + ", " + b + ")", real.about(a, b), model.about(a, b));
            case 1 -> same("as(" + a + ", " + b + ")", real.as(a, b), model.as(a, b));
            case 2 -> same("then(" + a + ", " + d + ")", real.then(a, d), model.then(a, d));
            case 3 -> same("goesTo(" + n + ", " + d + ")", real.goesTo(n, d), model.goesTo(n, d));
            case 4 -> same("walk()", real.walk(), model.walk());
            case 5 -> aCheap();
            case 6 -> same("when(" + a + ", " + n + ")", real.when(a, n), model.when(a, n));
            case 7 -> aWhen(a, edge(0, 140));
            case 8 -> same("days(" + b % 3 + ")", real.days(b % 3), model.days(b % 3));
            case 9 -> same("ask()", real.ask(), model.ask());
            case 10 -> aYears();
            case 11 -> aCount(edge(0, 9));
            default -> same("fault()", real.fault(), model.fault());
        }
    }

    private void aCheap() {
        int much = edge(0, model.none() ? 400 : 1 + model.all(model.now.day(), model.now.births()));
        int what = edge(0, 1);
        same("cheap(" + much + ", " + what + ")", real.cheap(much, what), model.cheap(much, what));
    }

    private void aWhen(int house, int number) {
        same("when(" + house + ", " + number + ")", real.when(house, number), model.when(house, number));
    }

    private void aYears() {
        int days = edge(1, 60);
        int seed = edge(0, Integer.MAX_VALUE - 1);
        int what = edge(0, 2);
        same("years(" + days + ", " + seed + ", " + what + ")", real.years(days, seed, what), model.years(days, seed, what));
    }

    private void aCount(int what) {
        same("count(" + what + ")", real.count(what), model.count(what));
    }

    private void aChange() {
        int a = anyHouse();
        int n = anyNumber();
        int much = edge(1, 9);
        switch (random.nextInt(20)) {
            case 0, 1, 2, 3, 4 -> same("birth(" + a + ")", real.birth(a), model.birth(a));
            case 5, 6, 7, 8, 9 -> same("day()", real.day(), model.day());
            case 10, 11 -> same("debt(" + much + ", " + n + ")", real.debt(much, n), model.debt(much, n));
            case 12, 13 -> same("hear(" + a + ", " + n + ")", real.hear(a, n), model.hear(a, n));
            case 14 -> same("image()", real.image(), model.image());
            case 15 -> same("restore()", real.restore(), model.restore());
            case 16 -> same("forget()", real.forget(), model.forget());
            case 17 -> same("pay()", real.pay(), model.pay());
            case 18 -> aLetter(edge(32, 126));
            default -> same("blank()", real.blank(), model.blank());
        }
    }

    private boolean differs(int rareness) {
        while (calls < CALLS && !wrong) {
            if (calls == 0 && random.nextInt(4) != 0 || random.nextInt(rareness) == 0) {
                aPage();
            } else if (random.nextInt(12) == 0) {
                same("digest()", real.digest(), model.digest());
            } else if (random.nextInt(2) == 0) {
                aTold();
            } else {
                aChange();
            }
        }
        return wrong;
    }

    public static void main(String[] args) {
        int wrong = 0;
        for (int object = 0; object < OBJECTS && wrong < 5; object++) {
            if (new BirthStreetModel(object).differs(object % 2 == 0 ? 40 : 400)) {
                wrong++;
            }
        }
        System.out.println(wrong == 0 ? OBJECTS + " objects answer as the model does" : wrong + " objects answer otherwise");
        if (wrong != 0) {
            System.exit(1);
        }
    }
}
