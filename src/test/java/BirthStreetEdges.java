import java.io.IOException;
import java.math.BigInteger;
import java.nio.file.Files;
import java.nio.file.Path;
import java.util.ArrayList;
import java.util.BitSet;
import java.util.Collections;
import java.util.List;
import java.util.Map;
import java.util.TreeMap;
import java.util.function.Supplier;
import java.util.function.ToLongFunction;
import java.util.regex.Matcher;
import java.util.regex.Pattern;

// Each sentence of ../shared/DOC.md in its own words, and the cases at its boundaries:
// the last inside and the first outside, the empty and the full, what wraps around, what is refused.
public final class BirthStreetEdges {
    private static final int NONE = -1, UNKNOWN = -101, OUTSIDE = -102, STATE = -103, FULL = -104;
    private static final int LOWEST = Integer.MIN_VALUE, HIGHEST = Integer.MAX_VALUE;
    private static final String ALL_KINDS = "h3,c5,t8,m2,b4,c1";
    private static final String LONGEST = "h0,t1,m2,c3,b4,h5";
    private static final int[] EACH = {0, 1, 2, 3, 4, 5}, NOBODY = {};

    private static int wrong = 0;
    private static int answers = 0;
    private static int sentences = 0;

    // ---- sentences of the document, and answers due by them

    private static final int TERMS = 0, PROMISES = 25;
    private static final Map<Integer, String> parts = new TreeMap<>();
    private static final Map<Integer, BitSet> quoted = new TreeMap<>();
    private static int promise = 0;
    private static String sentence = "";
    private static int answersAhead = 0;

    private static void complain(String what) {
        wrong++;
        System.out.println(what);
    }

    private static void says(int ofPromise, String words) {
        endSentence();
        promise = ofPromise;
        sentence = words;
        answersAhead = answers;
        sentences++;
        if (!parts.isEmpty() && !quote(promise) && !quote(TERMS)) {
            complain("promise " + promise + ": the document does not say \"" + words + "\"");
        }
    }

    private static void endSentence() {
        if (!sentence.isEmpty() && answers == answersAhead) {
            complain("promise " + promise + ": nothing is asked for \"" + sentence + "\"");
        }
    }

    private static boolean quote(int part) {
        String text = parts.getOrDefault(part, "");
        BitSet marks = quoted.computeIfAbsent(part, p -> new BitSet());
        int first = text.indexOf(sentence);
        int at = first;
        while (at >= 0 && marks.get(at)) {
            at = text.indexOf(sentence, at + 1);
        }
        int place = at >= 0 ? at : first;
        if (place >= 0) {
            marks.set(place, place + sentence.length());
        }
        return place >= 0;
    }

    private static void due(String what, long got, long want) {
        answers++;
        if (got != want) {
            complain("promise " + promise + " \"" + sentence + "\": " + what + " answered " + got + ", due is " + want);
        }
    }

    private static String between(String text, String from, String to) {
        int begin = text.indexOf(from);
        int end = text.indexOf(to, begin);
        return begin < 0 || end < 0 ? "" : text.substring(begin, end);
    }

    // Without the document the sentences are tested all the same, but not held against it.
    private static void readTheDocument() throws IOException {
        Path path = Path.of("../shared/DOC.md");
        if (!Files.isRegularFile(path)) {
            System.out.println("no ../shared/DOC.md");
            return;
        }
        String text = Files.readString(path).replaceAll("```(text)?|=====+ \\d+", " ").replaceAll("\\s+", " ");
        parts.put(TERMS, between(text, "A STREET is a text:", "## The public face")
            + between(text, "KINDS are told", "Ahead of the calls"));
        Matcher told = Pattern.compile("## Promise (\\d+): [^`]*`[^`]*`: (.*?)(?=##)").matcher(text);
        while (told.find()) {
            parts.put(Integer.parseInt(told.group(1)), told.group(2));
        }
        if (parts.size() != 1 + PROMISES || parts.get(TERMS).isEmpty()) {
            complain("the document has not the form that it had: " + parts.size() + " parts");
        }
    }

    private static void nothingIsLeftOut() {
        endSentence();
        for (Map.Entry<Integer, String> part : parts.entrySet()) {
            StringBuilder left = new StringBuilder(part.getValue());
            quoted.getOrDefault(part.getKey(), new BitSet()).stream().forEach(i -> left.setCharAt(i, ' '));
            if (left.chars().anyMatch(Character::isLetterOrDigit)) {
                complain("promise " + part.getKey() + ": no test for \"" + left.toString().strip() + "\"");
            }
        }
    }

    // ---- streets

    private static void type(BirthStreet x, String text) {
        text.chars().forEach(x::letter);
    }

    private static BirthStreet page(String text) {
        BirthStreet x = new BirthStreet();
        type(x, text);
        return x;
    }

    private static BirthStreet street(String text) {
        BirthStreet x = page(text);
        if (x.street() < 2) {
            complain("no street: " + text);
        }
        return x;
    }

    private static BirthStreet pass(BirthStreet x, int days) {
        for (int i = 0; i < days; i++) {
            x.day();
        }
        return x;
    }

    private static BirthStreet aged(String text, int days) {
        return pass(street(text), days);
    }

    private static String many(String house, int times) {
        return String.join(",", Collections.nCopies(times, house));
    }

    // Day 4, with an image of day 2 that is unlike it in all that it keeps.
    private static BirthStreet lived() {
        BirthStreet x = street(ALL_KINDS);
        x.birth(0);
        x.debt(2, 4);
        x.hear(0, 0);
        x.day();
        x.birth(5);
        x.day();
        x.debt(7, 50);
        x.image();
        x.day();
        x.birth(2);
        x.pay();
        x.forget();
        x.debt(5, 6);
        x.debt(1, 60);
        x.hear(3, 5);
        x.hear(0, 3);
        x.day();
        type(x, "h4,t5,c");
        return x;
    }

    // Day 30, six debts, six things heard that were so on day 9 alone, a page of 19 letters.
    private static BirthStreet full() {
        BirthStreet x = street(ALL_KINDS);
        pass(x, 9);
        x.image();
        for (int i = 0; i < 6; i++) {
            x.debt(i + 1, i < 3 ? 4 : 90);
            x.hear(i, x.about(i, 2));
        }
        pass(x, 21);
        type(x, LONGEST + ",h");
        return x;
    }

    // ---- what is refused

    // All that can be told of an object, of its image, and of what neither shows before it is paid or forgotten.
    private static List<Long> tale(BirthStreet x) {
        List<Long> told = new ArrayList<>();
        tell(x, told);
        told.add((long) x.restore());
        tell(x, told);
        told.add((long) x.restore());
        told.add((long) x.day());
        tell(x, told);
        told.add((long) x.fault());
        told.add((long) x.blank());
        type(x, "t6,c7");
        told.add((long) x.street());
        tell(x, told);
        return told;
    }

    private static void tell(BirthStreet x, List<Long> told) {
        told.add(x.digest());
        for (int much = 0; much <= 40; much += 5) {
            told.add((long) x.cheap(much, 1));
        }
        told.add((long) x.years(60, 7, 0));
        told.add((long) x.when(2, 20));
        told.add((long) x.pay());
        told.add((long) x.hear(0, 5));
        told.add((long) x.days(0));
        told.add((long) x.forget());
        told.add(x.digest());
    }

    // Of two objects made alike one is asked for what is refused; both tell the same behind it.
    private static void refused(int want, String what, Supplier<BirthStreet> made, ToLongFunction<BirthStreet> call) {
        BirthStreet asked = made.get();
        due(what, call.applyAsLong(asked), want);
        due("what is told behind " + what + ", alike", tale(asked).equals(tale(made.get())) ? 1 : 0, 1);
    }

    private interface CallWith {
        long on(BirthStreet x, int number);
    }

    private static void range(int refusal, String what, int least, int greatest, Supplier<BirthStreet> made, CallWith call) {
        for (int inside : new int[] {least, least + 1, greatest - 1, greatest}) {
            due(what + " " + inside + " is taken", call.on(made.get(), inside) >= NONE ? 1 : 0, 1);
        }
        for (int outside : new int[] {least - 1, greatest + 1, LOWEST, HIGHEST, LOWEST + 1, HIGHEST - 1}) {
            if (outside < least || outside > greatest) {
                refused(refusal, what + " " + outside, made, x -> call.on(x, outside));
            }
        }
    }

    private static void houses(int[] taken, CallWith call) {
        for (int house : taken) {
            due("house " + house + " is taken", call.on(lived(), house) >= NONE ? 1 : 0, 1);
        }
        for (int house : new int[] {-1, 6, LOWEST, HIGHEST}) {
            refused(UNKNOWN, "house " + house, BirthStreetEdges::lived, x -> call.on(x, house));
        }
        for (int house : new int[] {2, 5}) {
            refused(UNKNOWN, "house " + house + " of two", () -> street("h1,h2"), x -> call.on(x, house));
        }
        for (int house : new int[] {-1, 0, 1}) {
            refused(UNKNOWN, "house " + house + " of no street", BirthStreet::new, x -> call.on(x, house));
        }
        refused(UNKNOWN, "a house of a page", () -> page("h1,h2"), x -> call.on(x, 0));
    }

    private static void noStreet(ToLongFunction<BirthStreet> call) {
        refused(STATE, "a new object", BirthStreet::new, call);
        refused(STATE, "a page alone", () -> page("h1,h2"), call);
        due("with a street", call.applyAsLong(street("h1,h2")) >= NONE ? 1 : 0, 1);
    }

    // ---- the promises

    public static void main(String[] args) throws IOException {
        readTheDocument();
        aNewObject();
        letter();
        blank();
        fault();
        faultOfAStreet();
        street();
        aStreetIsGone();
        about();
        numbers();
        aboutBirths();
        as();
        birth();
        birthNextDoor();
        day();
        then();
        goesTo();
        walk();
        debt();
        whoOwes();
        pay();
        cheap();
        cheapOfLikeOnes();
        when();
        hear();
        forget();
        days();
        ask();
        years();
        yearsAsTheyWouldBe();
        draws();
        image();
        restore();
        restoreState();
        count();
        countEach();
        calls();
        digest();
        digestOfAll();
        refusals();
        nothingIsLeftOut();
        System.out.println(sentences + " sentences, " + answers + " answers, " + wrong + " wrong");
        if (wrong != 0) {
            System.exit(1);
        }
    }

    private static void aNewObject() {
        says(1, "No STREET.");
        BirthStreet x = new BirthStreet();
        due("streets read", x.count(9), 0);
        due("walk", x.walk(), STATE);
        due("image", x.image(), STATE);
        says(1, "at first there is none;");
        due("houses", x.count(0), 0);
        due("house 0", x.about(0, 0), UNKNOWN);
        says(1, "then it is DAY 0.");
        due("day", x.count(1), 0);
        due("of a street", street("h1,h2").count(1), 0);
        due("the number on day 0", street("h1,h2").then(1, 0), 2);
        due("the number on day 1", street("h1,h2").then(1, 1), UNKNOWN);
        due("the next day", street("h1,h2").day(), 1);
    }

    // ---- the street

    private static void letter() {
        says(2, "A letter comes behind THE PAGE, told by its code: how many THE PAGE has.");
        BirthStreet x = new BirthStreet();
        for (int i = 1; i <= 19; i++) {
            due("letter " + i, x.letter(96 + i), i);
            due("letters", x.count(8), i);
        }
        long h = 1033;
        for (int i = 1; i <= 19; i++) {
            h = 31 * h + 96 + i;
        }
        for (int count : new int[] {0, 0, 0, 0, 0, 0, 0, 0, 19, 0}) {
            h = 31 * h + count;
        }
        due("each by its code, in order", x.digest(), h);
        due("behind a street that was read", street("h1,h2").letter('h'), 1);
        says(2, "OUTSIDE: code (32 to 126);");
        range(OUTSIDE, "code", 32, 126, BirthStreet::new, BirthStreet::letter);
        range(OUTSIDE, "code on a page", 32, 126, BirthStreetEdges::lived, BirthStreet::letter);
        for (int code = 32; code <= 126; code++) {
            due("code " + code, new BirthStreet().letter(code), 1);
        }
        refused(OUTSIDE, "code 0", BirthStreet::new, y -> y.letter(0));
        refused(OUTSIDE, "code 31 on a full page", BirthStreetEdges::full, y -> y.letter(31));
        refused(OUTSIDE, "code 127 on a full page", BirthStreetEdges::full, y -> y.letter(127));
        says(2, "FULL: above 19.");
        due("the 18th", page("h".repeat(17)).letter('h'), 18);
        due("the 19th", page("h".repeat(18)).letter('h'), 19);
        refused(FULL, "the 20th", () -> page("h".repeat(19)), y -> y.letter('h'));
        refused(FULL, "the 20th, of code 32", BirthStreetEdges::full, y -> y.letter(32));
        refused(FULL, "the 20th, of code 126", BirthStreetEdges::full, y -> y.letter(126));
        BirthStreet z = full();
        z.letter('h');
        z.blank();
        due("behind a blank", z.letter('h'), 1);
    }

    private static void blank() {
        says(3, "THE PAGE is empty: how many letters it had.");
        BirthStreet x = new BirthStreet();
        due("none", x.blank(), 0);
        x.letter('~');
        due("one", x.blank(), 1);
        due("none is left", x.count(8), 0);
        due("again", x.blank(), 0);
        BirthStreet y = full();
        due("19", y.blank(), 19);
        due("none is left of 19", y.blank(), 0);
        due("no fault is left", y.fault(), 0);
        due("nothing to read", y.street(), STATE);
        due("the first letter behind it", y.letter('h'), 1);
        due("the street stays", y.count(0), 6);
        due("its day stays", y.count(1), 30);
        due("its image stays", y.restore(), 9);
        due("digest of an empty page", blanked("h1").digest(), new BirthStreet().digest());
    }

    private static BirthStreet blanked(String text) {
        BirthStreet x = page(text);
        x.blank();
        return x;
    }

    private static void fault() {
        says(4, "The place (from 0) of the first letter of THE PAGE that no STREET has there, behind those ahead of it;");
        for (int place = 0; place <= 16; place++) {
            String ahead = LONGEST.substring(0, place);
            String can = place % 3 == 0 ? "htmcb" : place % 3 == 1 ? "0123456789" : ",";
            for (char code = 32; code <= 126; code++) {
                int want = can.indexOf(code) >= 0 ? place + 1 : place;
                due("'" + code + "' behind " + ahead, page(ahead + code).fault(), want);
            }
        }
        for (char code = 32; code <= 126; code++) {
            due("'" + code + "' behind the longest", page(LONGEST + code).fault(), 17);
        }
        due("two behind the longest", page(LONGEST + ",h").fault(), 17);
        due("the first of two", page("hh,").fault(), 1);
        due("the first, not the last", page("xh1,h2").fault(), 0);
        due("a fault far ahead of the end", page("h1;h2,h3,h4").fault(), 2);
        due("though the rest would be a street", page(" h1,h2").fault(), 0);
        says(4, "how many letters it has, if there is none.");
        due("an empty page", new BirthStreet().fault(), 0);
        for (int letters = 1; letters <= 17; letters++) {
            due("the first " + letters, page(LONGEST.substring(0, letters)).fault(), letters);
        }
        due("it is told, not changed", sameDigest(typed("h1,x"), BirthStreet::fault), 1);
    }

    private static void faultOfAStreet() {
        says(4, "with \",\" between,");
        for (String sign : new String[] {";", ".", " ", "h", "0", "-", "+"}) {
            due("'" + sign + "' between", page("h1" + sign + "h2").fault(), 2);
            due("'" + sign + "' between, read", page("h1" + sign + "h2").street(), STATE);
        }
        due("ahead of all", page(",h1,h2").fault(), 0);
        due("two of them", page("h1,,h2").fault(), 3);
        due("behind all, no fault", page("h1,h2,").fault(), 6);
        due("behind all, no street", page("h1,h2,").street(), STATE);
        says(4, "each a letter, the KIND,");
        due("a great letter", page("H1").fault(), 0);
        due("no letter", page("1").fault(), 0);
        due("two letters", page("hh1").fault(), 1);
        due("the second house's", page("h1,x2").fault(), 3);
        says(4, "and a digit AGE (0 to 9);");
        for (int age = 0; age <= 9; age++) {
            due("age " + age, street("h" + age + ",h0").about(0, 1), age);
        }
        due("the sign ahead of 0", page("h/").fault(), 1);
        due("the sign behind 9", page("h:").fault(), 1);
        due("two digits", page("h10").fault(), 2);
        due("none", page("h,").fault(), 1);
    }

    private static void street() {
        says(5, "A STREET is a text: two to six HOUSES");
        refused(STATE, "no house", BirthStreet::new, BirthStreet::street);
        refused(STATE, "one house", () -> page("h0"), BirthStreet::street);
        for (int many = 2; many <= 6; many++) {
            due(many + " houses", page(many("t9", many)).street(), many);
        }
        refused(STATE, "six houses and a kind", () -> page(many("t9", 6) + ",t"), BirthStreet::street);
        says(5, "THE PAGE is read as THE STREET");
        BirthStreet x = street("c9,b0");
        due("kind 0", x.about(0, 0), 3);
        due("kind 1", x.about(1, 0), 4);
        due("age 0", x.about(0, 1), 9);
        due("age 1", x.about(1, 1), 0);
        says(5, "how many HOUSES;");
        due("two", page("h1,h2").street(), 2);
        due("six", page(LONGEST).street(), 6);
        says(5, "THE PAGE is empty then.");
        due("letters", street(LONGEST).count(8), 0);
        due("blank", street(LONGEST).blank(), 0);
        due("nothing is left to read", street(LONGEST).street(), STATE);
        due("the first letter behind it", street(LONGEST).letter('h'), 1);
        says(5, "STATE: it is none.");
        String[] none = {"h", "h0", "h0,", "h0,t", "h0,t1,", "h0,t1,m", LONGEST + ",", LONGEST + ",h", "x", "h0;h1",
            "h0,hx", "h0,x1", " h0,h1", "h0,h1 ", "h0,h1;", "h0h1", "h0 h1", "H0,H1", "h0,h1,,", ",h0,h1"};
        for (String text : none) {
            refused(STATE, "\"" + text + "\"", () -> page(text), BirthStreet::street);
            refused(STATE, "\"" + text + "\" behind a street", () -> typed(text), BirthStreet::street);
        }
    }

    private static BirthStreet typed(String text) {
        BirthStreet x = lived();
        x.blank();
        type(x, text);
        return x;
    }

    private static void aStreetIsGone() {
        says(5, "(another one is gone, with all that was):");
        String same = "h4,t5";
        for (Supplier<BirthStreet> before : List.<Supplier<BirthStreet>>of(BirthStreetEdges::lived, BirthStreetEdges::full)) {
            BirthStreet x = before.get();
            x.blank();
            type(x, same);
            due("houses", x.street(), 2);
            int[] want = {2, 0, 0, 4 + 2, 2, 0, 0, 0, 0, 2};
            for (int what = 0; what <= 9; what++) {
                due("count " + what, x.count(what), want[what]);
            }
            due("age", x.about(0, 1), 4);
            due("births in 0", x.about(0, 3), 0);
            due("births in 1", x.about(1, 3), 0);
            due("owed by 0", x.about(0, 4), 0);
            due("house 2", x.about(2, 1), UNKNOWN);
            due("day 1", x.then(0, 1), UNKNOWN);
            due("a letter to day 1", x.goesTo(4, 1), UNKNOWN);
            due("days", x.days(0), 1);
            due("image", x.restore(), STATE);
            due("paid", x.pay(), 0);
            due("forgotten", x.forget(), 0);
            due("a debt is the first", x.debt(1, 1), 1);
            due("the next day", x.day(), 1);
        }
        BirthStreet grown = street("h1,h2");
        grown.birth(0);
        type(grown, "h9,t9,m9,c9,b9,h9");
        due("six houses behind two", grown.street(), 6);
        for (int house = 0; house < 6; house++) {
            due("age of " + house, grown.about(house, 1), 9);
            due("births in " + house, grown.about(house, 3), 0);
        }
    }

    // ---- houses, days

    private static void about() {
        says(6, "Of a HOUSE: what = 0 KIND, 1 AGE, 2 NUMBER,");
        BirthStreet x = aged(ALL_KINDS, 4);
        x.birth(0);
        pass(x, 5);
        int[][] want = {{0, 5, 5}, {3, 5, 5}, {1, 17, 8}, {2, 11, 11}, {4, 4, 4}, {3, 10, 10}};
        for (int house = 0; house < 6; house++) {
            for (int what = 0; what <= 2; what++) {
                due("about " + house + " " + what, x.about(house, what), want[house][what]);
            }
        }
        says(6, "UNKNOWN;");
        houses(EACH, (y, house) -> y.about(house, 0));
        houses(EACH, (y, house) -> y.about(house, 5));
        houses(NOBODY, (y, house) -> y.about(house, -1));
        houses(NOBODY, (y, house) -> y.about(house, 6));
        says(6, "OUTSIDE.");
        range(OUTSIDE, "what", 0, 5, BirthStreetEdges::lived, (y, what) -> y.about(0, what));
        range(OUTSIDE, "what of the last", 0, 5, BirthStreetEdges::full, (y, what) -> y.about(5, what));
        says(6, "(numbered from 0 by PLACES)");
        BirthStreet six = street("h9,h8,h7,h6,h5,h4");
        for (int house = 0; house < 6; house++) {
            due("house " + house, six.about(house, 1), 9 - house);
        }
        says(6, "KINDS are told by the letter: 0 HOUSE \"h\", 1 TWINS \"t\", 2 MAID \"m\", 3 CRADLE \"c\", 4 BURNT \"b\".");
        for (int kind = 0; kind <= 4; kind++) {
            String letter = "htmcb".substring(kind, kind + 1);
            due("the first, " + letter, street(letter + "0,h0").about(0, 0), kind);
            due("the sixth, " + letter, street(many("h0", 5) + "," + letter + "0").about(5, 0), kind);
        }
    }

    private static void numbers() {
        says(6, "The NUMBER of a HOUSE is its AGE;");
        for (char kind : "hmcb".toCharArray()) {
            for (int age = 0; age <= 9; age++) {
                due(kind + " of age " + age, street("h0," + kind + age).about(1, 2), age);
            }
        }
        due("the greatest of all", aged("h9,b9", 30).about(0, 2), 39);
        says(6, "of TWINS half of it, rounded down.");
        int[] halves = {0, 0, 1, 1, 2, 2, 3, 3, 4, 4};
        for (int age = 0; age <= 9; age++) {
            due("twins of age " + age, street("t" + age + ",h0").about(0, 2), halves[age]);
            due("their age", street("t" + age + ",h0").about(0, 1), age);
        }
        due("twins of age 10", aged("t9,h0", 1).about(0, 2), 5);
        due("twins of age 38", aged("t9,h0", 29).about(0, 2), 19);
        due("twins of age 39", aged("t9,h0", 30).about(0, 2), 19);
    }

    private static void aboutBirths() {
        says(6, "3 how many BIRTHS there were in it (of a CRADLE those next door by which its AGE became 0, too),");
        BirthStreet x = street("h5,c0,c5,h1,c2,m3");
        births(x, "at first", 0, 0, 0, 0, 0, 0);
        x.birth(0);
        births(x, "the cradle had 0 ahead", 1, 1, 0, 0, 0, 0);
        x.birth(1);
        births(x, "a cradle's own, and the next one's", 1, 2, 1, 0, 0, 0);
        x.birth(2);
        births(x, "none next door to the house behind it", 1, 2, 2, 0, 0, 0);
        x.birth(3);
        births(x, "a house lends to its own next door", 1, 2, 2, 1, 1, 0);
        x.birth(4);
        births(x, "none in the maid's", 1, 2, 2, 1, 2, 0);
        x.birth(5);
        births(x, "a refused one", 1, 2, 2, 1, 2, 0);
        pass(x, 3);
        births(x, "days later", 1, 2, 2, 1, 2, 0);
        says(6, "4 what it OWES,");
        BirthStreet y = street("h2,t5,b2");
        due("no debt", y.about(0, 4), 0);
        y.debt(9, 2);
        y.debt(9, 2);
        due("of like numbers the first", y.about(0, 4), 18);
        due("not the second", y.about(1, 4), 0);
        for (int i = 0; i < 4; i++) {
            y.debt(9, 2);
        }
        due("all six", y.about(0, 4), 54);
        says(6, "5 as the so-manieth it comes in the WALK (from 0).");
        BirthStreet z = street("h1,h0,t2,h9,b0,m1");
        int[] turns = {2, 0, 3, 5, 1, 4};
        for (int house = 0; house < 6; house++) {
            due("turn of " + house, z.about(house, 5), turns[house]);
        }
    }

    private static void births(BirthStreet x, String what, int... want) {
        for (int house = 0; house < want.length; house++) {
            due(what + ": in " + house, x.about(house, 3), want[house]);
        }
    }

    private static void as() {
        says(7, "A HOUSE taken as a KIND: its PLACE;");
        for (int kind = 0; kind <= 4; kind++) {
            String letter = "htmcb".substring(kind, kind + 1);
            due(letter + " at the first place", street(letter + "0,h0").as(0, kind), 0);
            due(letter + " at the last place", street(many("h0", 5) + "," + letter + "0").as(5, kind), 5);
        }
        says(7, "All are HOUSES; a BURNT one is a MAID, too.");
        BirthStreet x = street("h0,t0,m0,c0,b0");
        for (int house = 0; house <= 4; house++) {
            due("as a house", x.as(house, 0), house);
        }
        due("the burnt one as a maid", x.as(4, 2), 4);
        due("the maid as a burnt one", x.as(2, 4), NONE);
        says(7, "NONE: it is none such (the cast fails).");
        int[][] none = {{0, 1}, {0, 2}, {0, 3}, {0, 4}, {1, 2}, {1, 3}, {1, 4}, {2, 1}, {2, 3}, {3, 1}, {3, 2}, {3, 4}, {4, 1}, {4, 3}};
        for (int[] cast : none) {
            due("as " + cast[0] + " " + cast[1], x.as(cast[0], cast[1]), NONE);
        }
        says(7, "UNKNOWN;");
        houses(EACH, (y, house) -> y.as(house, 0));
        houses(EACH, (y, house) -> y.as(house, 4));
        houses(NOBODY, (y, house) -> y.as(house, -1));
        houses(NOBODY, (y, house) -> y.as(house, 5));
        says(7, "OUTSIDE.");
        range(OUTSIDE, "kind", 0, 4, BirthStreetEdges::lived, (y, kind) -> y.as(0, kind));
        range(OUTSIDE, "kind of the burnt one", 0, 4, BirthStreetEdges::full, (y, kind) -> y.as(4, kind));
    }

    private static void birth() {
        says(8, "A BIRTH: how many HOUSES have AGE 0 by it (one that had 0 ahead, too).");
        BirthStreet x = street("h0,c0,t0,h7");
        due("two, that had 0 ahead", x.birth(0), 2);
        due("one, that had 0 ahead", x.birth(2), 1);
        due("one that had not", x.birth(3), 1);
        due("not those that have 0 by others", x.birth(3), 1);
        says(8, "UNKNOWN;");
        houses(new int[] {0, 1, 2, 5}, BirthStreet::birth);
        says(8, "STATE: it is a MAID's.");
        refused(STATE, "a maid", BirthStreetEdges::lived, y -> y.birth(3));
        refused(STATE, "a burnt one", BirthStreetEdges::lived, y -> y.birth(4));
        refused(STATE, "a maid ahead of a cradle", () -> street("m5,c5"), y -> y.birth(0));
        refused(STATE, "a burnt one ahead of a cradle", () -> street("b5,c5"), y -> y.birth(0));
        refused(STATE, "a maid of age 0", () -> street("h5,m0"), y -> y.birth(1));
        says(8, "A BIRTH in a HOUSE: its AGE is 0 then;");
        for (char kind : "htc".toCharArray()) {
            BirthStreet y = street("h5," + kind + "9,h6");
            due("in " + kind, y.birth(1), 1);
            ages(y, "in " + kind, 5, 0, 6);
        }
        BirthStreet old = aged("h9,h9", 30);
        old.birth(1);
        ages(old, "on day 30", 39, 0);
        says(8, "In a MAID's there is none.");
        for (char kind : "mb".toCharArray()) {
            BirthStreet y = street("h5," + kind + "9,c6");
            due("in " + kind, y.birth(1), STATE);
            ages(y, "in " + kind, 5, 9, 6);
            due("births", y.count(2), 0);
            due("births in it", y.about(1, 3), 0);
        }
    }

    private static void birthNextDoor() {
        says(8, "that of a CRADLE at the next PLACE, too (not further).");
        for (char kind : "htmcb".toCharArray()) {
            BirthStreet y = street("h5," + kind + "6");
            due("next to " + kind, y.birth(0), kind == 'c' ? 2 : 1);
            ages(y, "next to " + kind, 0, kind == 'c' ? 0 : 6);
        }
        BirthStreet x = street("c1,c2,c3,c4,c5,c6");
        due("in the last", x.birth(5), 1);
        ages(x, "in the last", 1, 2, 3, 4, 5, 0);
        due("in the first", x.birth(0), 2);
        ages(x, "in the first", 0, 0, 3, 4, 5, 0);
        due("in the last but one", x.birth(4), 2);
        ages(x, "in the last but one", 0, 0, 3, 4, 0, 0);
        BirthStreet y = street("c5,h6,m7,c8");
        due("not that ahead", y.birth(1), 1);
        ages(y, "not that ahead", 5, 0, 7, 8);
        BirthStreet z = street("h1,h2,c3");
        type(z, "h4,h5");
        z.street();
        due("nor that of a street that is gone", z.birth(1), 1);
        due("births then", z.count(2), 1);
    }

    private static void ages(BirthStreet x, String what, int... want) {
        for (int house = 0; house < want.length; house++) {
            due(what + ": age of " + house, x.about(house, 1), want[house]);
        }
    }

    private static void day() {
        says(9, "The DAY goes by: which it is then.");
        BirthStreet x = street("h9,t8,m7,c6,b5,h0");
        for (int day = 1; day <= 30; day++) {
            due("day", x.day(), day);
            due("told", x.count(1), day);
        }
        says(9, "By each DAY that goes by AGE is 1 more; not of a BURNT one.");
        ages(street("h9,t8,m7,c6,b5,h0"), "by none", 9, 8, 7, 6, 5, 0);
        ages(aged("h9,t8,m7,c6,b5,h0", 1), "by one", 10, 9, 8, 7, 5, 1);
        ages(aged("h9,t8,m7,c6,b5,h0", 30), "by thirty", 39, 38, 37, 36, 5, 30);
        ages(aged("b0,b9", 30), "burnt ones", 0, 9);
        says(9, "STATE: no STREET;");
        noStreet(BirthStreet::day);
        says(9, "FULL: it is DAY 30.");
        due("behind day 29", aged("h1,h2", 29).day(), 30);
        refused(FULL, "behind day 30", () -> aged("h1,h2", 30), BirthStreet::day);
        refused(FULL, "with all full", BirthStreetEdges::full, BirthStreet::day);
        BirthStreet y = full();
        y.restore();
        due("from an image of day 9", y.day(), 10);
    }

    private static void then() {
        says(10, "The NUMBER of a HOUSE in the end of a DAY (now, if it is this one).");
        BirthStreet x = street("h3,t7,b5");
        due("day 0 is this one", x.then(0, 0), 3);
        x.birth(0);
        due("behind the birth", x.then(0, 0), 0);
        x.day();
        due("day 0, gone by", x.then(0, 0), 0);
        due("this day", x.then(0, 1), 1);
        due("twins on day 0", x.then(1, 0), 3);
        due("twins now", x.then(1, 1), 4);
        due("burnt on day 0", x.then(2, 0), 5);
        due("burnt now", x.then(2, 1), 5);
        BirthStreet old = aged("h9,t9,m9,c9,b9,h0", 30);
        for (int day = 0; day <= 30; day++) {
            due("a house on " + day, old.then(0, day), 9 + day);
            due("twins on " + day, old.then(1, day), (9 + day) / 2);
            due("a burnt one on " + day, old.then(4, day), 9);
            due("the last on " + day, old.then(5, day), day);
        }
        says(10, "UNKNOWN: house, day (0 to now).");
        houses(EACH, (y, house) -> y.then(house, 0));
        range(UNKNOWN, "day", 0, 4, BirthStreetEdges::lived, (y, day) -> y.then(0, day));
        range(UNKNOWN, "day of 30", 0, 30, BirthStreetEdges::full, (y, day) -> y.then(5, day));
        refused(UNKNOWN, "day 1 on day 0", () -> street("h1,h2"), y -> y.then(0, 1));
        refused(UNKNOWN, "day -1 on day 0", () -> street("h1,h2"), y -> y.then(0, -1));
        refused(UNKNOWN, "both", BirthStreetEdges::lived, y -> y.then(6, 5));
        refused(UNKNOWN, "a day behind the image's", () -> restored(lived()), y -> y.then(0, 3));
        says(10, "What AGES were on an earlier DAY is as they were in its end (behind all BIRTHS on it).");
        BirthStreet z = aged("h3,c5,h4", 2);
        due("ahead of the births", z.then(1, 2), 7);
        z.birth(1);
        z.birth(0);
        z.birth(0);
        pass(z, 1);
        due("behind the births", z.then(1, 2), 0);
        due("on the day ahead of them", z.then(1, 1), 6);
        due("on day 0", z.then(1, 0), 5);
        z.birth(2);
        due("not by a later one", z.then(2, 2), 6);
        due("by that of now", z.then(2, 3), 0);
    }

    private static BirthStreet restored(BirthStreet x) {
        x.restore();
        return x;
    }

    private static void goesTo() {
        says(11, "Which HOUSE had a NUMBER in the end of a DAY (the least PLACE; NONE).");
        BirthStreet x = aged("h2,t6,b3,h3,t7,h9", 1);
        due("the least place of four", x.goesTo(3, 0), 1);
        due("the least place of three", x.goesTo(3, 1), 0);
        due("the last place", x.goesTo(9, 0), 5);
        due("nobody", x.goesTo(9, 1), NONE);
        due("behind its births", bornIn(0, "h5,h5").goesTo(0, 0), 0);
        due("behind them another", bornIn(0, "h5,h5").goesTo(5, 0), 1);
        for (int number : new int[] {-1, 40, 99, 100, LOWEST, HIGHEST}) {
            due("number " + number, full().goesTo(number, 30), NONE);
            due("number " + number + " on day 0", full().goesTo(number, 0), NONE);
        }
        due("number 0", street("h1,h0").goesTo(0, 0), 1);
        due("number 39", aged("b9,h9", 30).goesTo(39, 30), 1);
        due("number 0 of none of six", street("h1,h2,h3,h4,h5,h6").goesTo(0, 0), NONE);
        due("number 0 of none, earlier", aged("h1,h2,h3,h4,h5,h6", 2).goesTo(0, 0), NONE);
        due("the first one's number of the next day", aged("h1,h9,h9,h9,h9,h9", 2).goesTo(2, 0), NONE);
        due("the last one's number of the day ahead", aged("h9,h9,h9,h9,h9,h1", 2).goesTo(1, 1), NONE);
        due("number 7 of a street that is gone", behind("h1,h2,b7", 2, "h1,h2", 0).goesTo(7, 0), NONE);
        for (int day = 0; day <= 30; day++) {
            for (int number = 0; number <= 40; number++) {
                due("number " + number + " on day " + day, full().goesTo(number, day), firstWith(full(), number, day));
            }
        }
        says(11, "UNKNOWN: day (0 to now; also without a STREET).");
        range(UNKNOWN, "day", 0, 4, BirthStreetEdges::lived, (y, day) -> y.goesTo(4, day));
        range(UNKNOWN, "day of 30", 0, 30, BirthStreetEdges::full, (y, day) -> y.goesTo(4, day));
        refused(UNKNOWN, "day 1 on day 0", () -> street("h1,h2"), y -> y.goesTo(1, 1));
        for (int day : new int[] {-1, 0, 1}) {
            refused(UNKNOWN, "day " + day + " without a street", BirthStreet::new, y -> y.goesTo(0, day));
        }
        refused(UNKNOWN, "day 0 of a page alone", () -> page("h0,h0"), y -> y.goesTo(0, 0));
    }

    // A street read behind another one, some days after both.
    private static BirthStreet behind(String gone, int daysThen, String text, int daysNow) {
        BirthStreet x = aged(gone, daysThen);
        type(x, text);
        x.street();
        return pass(x, daysNow);
    }

    private static int firstWith(BirthStreet x, int number, int day) {
        for (int house = 0; house < x.count(0); house++) {
            if (x.then(house, day) == number) {
                return house;
            }
        }
        return NONE;
    }

    private static BirthStreet bornIn(int house, String text) {
        BirthStreet x = street(text);
        x.birth(house);
        return x;
    }

    private static void walk() {
        says(12, "WALK.");
        due("to the right", street("h0,h1,h2,h3,h4,h5").walk(), 5);
        due("to the left", street("h5,h4,h3,h2,h1,h0").walk(), 10);
        due("all alike", street(many("h1", 6)).walk(), 5);
        due("the last one first, by a birth", bornIn(5, many("h1", 6)).walk(), 5 + 5 + 4);
        says(12, "STATE: no STREET.");
        noStreet(BirthStreet::walk);
        says(12, "WALK: the lamplighter goes from PLACE 0 to the HOUSE with the least NUMBER, "
            + "then to that with the next greater one, and so on to all");
        due("at place 0 already", street("h0,h1").walk(), 1);
        due("away and back", street("h1,h0").walk(), 2);
        due("twins by their number, not their age", street("t3,h2").walk(), 1);
        due("behind a house of a lesser number", street("t7,h2").walk(), 2);
        says(12, "(of like ones the lesser PLACE ahead):");
        due("all alike", street(many("b4", 6)).walk(), 5);
        due("two alike behind one", street("h5,h5,h1").walk(), 2 + 2 + 1);
        due("twins like a house", street("t3,h1").walk(), 1);
        due("a house like twins", street("h1,t3").walk(), 1);
        says(12, "how many PLACES far together.");
        due("the shortest", street("h1,h1").walk(), 1);
        due("from end to end", street("h1,h3,h5,h4,h2,h0").walk(), 5 + 5 + 4 + 3 + 2 + 1);
        due("by far numbers no farther", aged("b0,h9", 30).walk(), 1);
    }

    // ---- debts

    private static void debt() {
        says(13, "A DEBT: how many there are.");
        BirthStreet x = street("h1,h2");
        for (int many = 1; many <= 6; many++) {
            due("the debt", x.debt(10 - many, 2), many);
            due("told", x.count(5), many);
        }
        says(13, "OUTSIDE: much (1 to 9), number (0 to 99);");
        range(OUTSIDE, "much", 1, 9, BirthStreetEdges::lived, (y, much) -> y.debt(much, 4));
        range(OUTSIDE, "number", 0, 99, BirthStreetEdges::lived, (y, number) -> y.debt(1, number));
        refused(OUTSIDE, "much 0 without a street", BirthStreet::new, y -> y.debt(0, 0));
        refused(OUTSIDE, "much 10 without a street", BirthStreet::new, y -> y.debt(10, 0));
        refused(OUTSIDE, "number -1 without a street", BirthStreet::new, y -> y.debt(1, -1));
        refused(OUTSIDE, "number 100 without a street", BirthStreet::new, y -> y.debt(1, 100));
        refused(OUTSIDE, "much 0 with six", BirthStreetEdges::full, y -> y.debt(0, 4));
        refused(OUTSIDE, "much 10 with six", BirthStreetEdges::full, y -> y.debt(10, 4));
        refused(OUTSIDE, "number -1 with six", BirthStreetEdges::full, y -> y.debt(1, -1));
        refused(OUTSIDE, "number 100 with six", BirthStreetEdges::full, y -> y.debt(1, 100));
        says(13, "STATE: no STREET;");
        noStreet(y -> y.debt(1, 0));
        noStreet(y -> y.debt(9, 99));
        says(13, "FULL.");
        refused(FULL, "the seventh", BirthStreetEdges::full, y -> y.debt(1, 4));
        refused(FULL, "the seventh, to nobody", BirthStreetEdges::full, y -> y.debt(9, 99));
        says(13, "A DEBT (6 at most)");
        due("the sixth", indebted(5).debt(1, 1), 6);
        due("the seventh", indebted(6).debt(1, 1), FULL);
        BirthStreet z = indebted(6);
        z.pay();
        due("behind a payment", z.debt(1, 1), 1);
        says(13, "is so much (1 to 9), to a NUMBER:");
        due("1 to 0", owing("h0,h1", 1, 0).about(0, 4), 1);
        due("9 to 0", owing("h0,h1", 9, 0).about(0, 4), 9);
        due("9 to 39", owing("b0,h9", 9, 39, 30).about(1, 4), 9);
        due("1 to 99 is nobody's yet", owing("h0,h1", 1, 99).count(5), 1);
    }

    private static BirthStreet indebted(int times) {
        BirthStreet x = street("h1,h2");
        for (int i = 0; i < times; i++) {
            x.debt(1, 1);
        }
        return x;
    }

    private static BirthStreet owing(String text, int much, int number, int... daysLater) {
        BirthStreet x = street(text);
        x.debt(much, number);
        return pass(x, daysLater.length == 0 ? 0 : daysLater[0]);
    }

    private static void whoOwes() {
        says(13, "the HOUSE of the least PLACE that has that NUMBER now OWES it;");
        BirthStreet x = street("t9,h4,b4,c3");
        x.debt(7, 4);
        owes(x, "the first of three", 7, 0, 0, 0);
        x.day();
        owes(x, "the burnt one, though the cradle has it", 0, 0, 7, 0);
        x.birth(1);
        pass(x, 4);
        owes(x, "the house, grown up to it", 0, 7, 0, 0);
        BirthStreet last = street("h1,h1,h1,h1,h1,h2");
        last.debt(3, 2);
        owes(last, "the last", 0, 0, 0, 0, 0, 3);
        last.debt(4, 1);
        owes(last, "the last, and the first", 4, 0, 0, 0, 0, 3);
        last.birth(0);
        owes(last, "by a birth the next", 0, 4, 0, 0, 0, 3);
        says(13, "nobody, if none has.");
        BirthStreet y = street("h1,h3");
        y.debt(5, 2);
        owes(y, "none has it", 0, 0);
        due("all", y.count(6), 0);
        due("it is a debt", y.count(5), 1);
        y.day();
        owes(y, "one has it the next day", 5, 0);
        y.day();
        owes(y, "none has it any more", 0, 0);
        due("it is paid all the same", y.pay(), 5);
    }

    private static void owes(BirthStreet x, String what, int... want) {
        for (int house = 0; house < want.length; house++) {
            due(what + ": owed by " + house, x.about(house, 4), want[house]);
        }
    }

    private static void pay() {
        says(14, "All DEBTS are paid: how much they were together.");
        due("without a street", new BirthStreet().pay(), 0);
        due("none", street("h1,h2").pay(), 0);
        BirthStreet x = street("h1,h2");
        x.debt(9, 99);
        due("one, nobody's", x.pay(), 9);
        due("again", x.pay(), 0);
        for (int i = 0; i < 6; i++) {
            x.debt(9, i);
        }
        due("six of the greatest", x.pay(), 54);
        due("debts", x.count(5), 0);
        due("owed", x.count(6), 0);
        owes(x, "behind it", 0, 0);
        due("the first behind it", x.debt(1, 1), 1);
        due("alone", x.about(0, 4), 1);
        due("paid alone", x.pay(), 1);
    }

    // ---- what would be

    private static void cheap() {
        says(15, "CHEAP: what = 0 in how few, 1 which, as bits;");
        BirthStreet x = street("h3,t9,c5,m4,h3,c2");
        cheap(x, 21, 0, 0);
        cheap(x, 20, 1, 0b000001);
        cheap(x, 4, 3, 0b010011);
        says(15, "NONE: there are none.");
        cheap(x, 3, NONE, NONE);
        cheap(x, 0, NONE, NONE);
        says(15, "OUTSIDE: much (0 to 400), what;");
        range(OUTSIDE, "much", 0, 400, BirthStreetEdges::lived, (y, much) -> y.cheap(much, 0));
        range(OUTSIDE, "much, which", 0, 400, BirthStreetEdges::full, (y, much) -> y.cheap(much, 1));
        range(OUTSIDE, "what", 0, 1, BirthStreetEdges::lived, (y, what) -> y.cheap(9, what));
        for (int much : new int[] {-1, 401}) {
            refused(OUTSIDE, "much " + much + " without a street", BirthStreet::new, y -> y.cheap(much, 0));
        }
        for (int what : new int[] {-1, 2}) {
            refused(OUTSIDE, "what " + what + " without a street", BirthStreet::new, y -> y.cheap(0, what));
        }
        says(15, "STATE: no STREET.");
        noStreet(y -> y.cheap(0, 0));
        noStreet(y -> y.cheap(400, 1));
        says(15, "CHEAP for so much: in how few HOUSES there must be BIRTHS now");
        cheap(street("h0,t1"), 0, 0, 0);
        cheap(street(many("h1", 6)), 0, 6, 0b111111);
        cheap(street(many("h1", 6)), 1, 5, 0b011111);
        cheap(aged(many("h9", 6), 30), 400, 0, 0);
        cheap(aged(many("h9", 6), 30), 233, 1, 0b000001);
        cheap(aged(many("h9", 6), 30), 0, 6, 0b111111);
        due("none is born by it", x.count(2), 0);
        ages(x, "nor is any age less", 3, 9, 5, 4, 3, 2);
    }

    private static void cheap(BirthStreet x, int much, int few, int which) {
        due("cheap for " + much + ", in how few", x.cheap(much, 0), few);
        due("cheap for " + much + ", which", x.cheap(much, 1), which);
    }

    private static void cheapOfLikeOnes() {
        says(15, "(in unlike ones, one behind the other by PLACES),");
        cheap(street("h9,m1"), 0, NONE, NONE);
        cheap(street("c5,c6,c7"), 7, 1, 0b001);
        cheap(street("c5,c6,c7"), 6, 1, 0b010);
        cheap(street("c5,c6,c7"), 4, 2, 0b011);
        cheap(street("c5,c6,c7,c8,c9"), 0, 3, 0b01011);
        says(15, "so that all NUMBERS together are no more:");
        cheap(street("h1,h2,h3"), 6, 0, 0);
        cheap(street("h1,h2,h3"), 5, 1, 0b001);
        cheap(street("h1,h2,h3"), 4, 1, 0b010);
        cheap(street("h1,h2,h3"), 3, 1, 0b100);
        cheap(street("h1,h2,h3"), 2, 2, 0b101);
        cheap(street("h1,h2,h3"), 1, 2, 0b110);
        cheap(street("h1,h2,h3"), 0, 3, 0b111);
        cheap(street("t9,h5"), 5, 1, 0b01);
        cheap(street("t9,h5"), 4, 1, 0b10);
        cheap(street("m3,b4,h5"), 7, 1, 0b100);
        cheap(street("m3,b4,h5"), 6, NONE, NONE);
        cheap(street("m3,c4"), 6, 1, 0b10);
        says(15, "which, as bits:");
        cheap(street("h1,m0,m0,m0,m0,m0"), 0, 1, 0b000001);
        cheap(street("m0,m0,m0,m0,m0,h1"), 0, 1, 0b100000);
        cheap(street("h1,m0,m0,m0,m0,h1"), 0, 2, 0b100001);
        says(15, "of like ones the least; none.");
        cheap(street("h2,h2,h2"), 4, 1, 0b001);
        cheap(street("h2,h2,h2"), 2, 2, 0b011);
        cheap(street("h1,h1,h1,h3"), 3, 1, 0b1000);
        cheap(street("h2,c2,h4"), 4, 1, 0b001);
        cheap(street("b5,b5"), 9, NONE, NONE);
        cheap(street("b5,b5"), 10, 0, 0);
    }

    private static void when() {
        says(16, "WHEN;");
        due("it is told, not changed", sameDigest(lived(), x -> x.when(0, 9)), 1);
        due("at once", street("h5,h0").when(0, 5), 0);
        due("of the last", street(LONGEST).when(5, 7), 2);
        says(16, "NONE.");
        due("of a number gone by", street("h5,h0").when(0, 4), NONE);
        due("of a burnt one's other", street("h5,b7").when(1, 8), NONE);
        for (int number : new int[] {-1, LOWEST, HIGHEST, 200}) {
            due("number " + number, street("h5,t5").when(0, number), NONE);
            due("number " + number + " of twins", street("h5,t5").when(1, number), NONE);
        }
        says(16, "UNKNOWN.");
        houses(EACH, (y, house) -> y.when(house, 4));
        houses(EACH, (y, house) -> y.when(house, -1));
        says(16, "WHEN for a HOUSE and a NUMBER: behind how many DAYS (0 to 99) it has just that NUMBER,");
        due("0 days", street("h0,h0").when(0, 0), 0);
        due("1 day", street("h0,h0").when(0, 1), 1);
        due("99 days", street("h0,h0").when(0, 99), 99);
        due("100 days", street("h0,h0").when(0, 100), NONE);
        due("99 days of age 9", street("m9,h0").when(0, 108), 99);
        due("100 days of age 9", street("m9,h0").when(0, 109), NONE);
        due("99 days from day 30 on", aged("h9,h0", 30).when(0, 138), 99);
        due("100 days from day 30 on", aged("h9,h0", 30).when(0, 139), NONE);
        due("twins' 99 days", street("t1,h0").when(0, 50), 99);
        due("twins' 100 days", street("t0,h0").when(0, 50), NONE);
        due("a burnt one's 0 days", street("b0,h0").when(0, 0), 0);
        due("a burnt one's 1 day", street("b0,h0").when(0, 1), NONE);
        says(16, "if there are no BIRTHS:");
        BirthStreet x = street("h3,c5");
        due("a number by a birth", x.when(0, 0), NONE);
        due("a number by one next door", x.when(1, 0), NONE);
        x.birth(0);
        due("behind the birth", x.when(0, 0), 0);
        due("behind the one next door", x.when(1, 1), 1);
        says(16, "the fewest; none.");
        due("twins of 6, the first of their two days", street("t6,h0").when(0, 4), 2);
        due("twins of 6, on their first day", street("t6,h0").when(0, 3), 0);
        due("twins of 7, on their last day", street("t7,h0").when(0, 3), 0);
        due("twins of 7, the day behind", street("t7,h0").when(0, 4), 1);
        due("a burnt one, of all days", street("b9,h0").when(0, 9), 0);
        due("none", street("t7,h0").when(0, 2), NONE);
    }

    // ---- what is heard

    private static void hear() {
        says(17, "It is HEARD: how much is.");
        BirthStreet x = street("h1,h2");
        for (int many = 1; many <= 6; many++) {
            due("heard", x.hear(many % 2, many), many);
            due("told", x.count(7), many);
        }
        BirthStreet again = street("h1,h2");
        for (int many = 1; many <= 6; many++) {
            due("heard again", again.hear(0, 1), many);
        }
        due("again, above six", again.hear(0, 1), FULL);
        says(17, "UNKNOWN: house;");
        houses(EACH, (y, house) -> y.hear(house, 0));
        houses(EACH, (y, house) -> y.hear(house, 99));
        houses(NOBODY, (y, house) -> y.hear(house, -1));
        houses(NOBODY, (y, house) -> y.hear(house, 100));
        refused(UNKNOWN, "house -1 with six", BirthStreetEdges::full, y -> y.hear(-1, 0));
        refused(UNKNOWN, "house 6 with six", BirthStreetEdges::full, y -> y.hear(6, 0));
        refused(UNKNOWN, "house 6, number 100, with six", BirthStreetEdges::full, y -> y.hear(6, 100));
        says(17, "OUTSIDE: number (0 to 99);");
        range(OUTSIDE, "number", 0, 99, BirthStreetEdges::lived, (y, number) -> y.hear(0, number));
        refused(OUTSIDE, "number -1 with six", BirthStreetEdges::full, y -> y.hear(0, -1));
        refused(OUTSIDE, "number 100 with six", BirthStreetEdges::full, y -> y.hear(5, 100));
        says(17, "FULL.");
        refused(FULL, "the seventh", BirthStreetEdges::full, y -> y.hear(0, 0));
        refused(FULL, "the seventh, that was so", BirthStreetEdges::full, y -> y.hear(4, 4));
        says(17, "HEARD (6 at most):");
        BirthStreet six = full();
        due("six", six.count(7), 6);
        due("seven", six.hear(0, 0), FULL);
        six.forget();
        due("behind a forgetting", six.hear(0, 0), 1);
        says(17, "that a HOUSE had a NUMBER on a DAY, of which it is not known which it was (0 to now).");
        BirthStreet y = aged("h0,h9", 3);
        fits(y, "day 0", 0, 0, 1, 0);
        fits(y, "now", 0, 3, 1, 3);
        fits(y, "tomorrow", 0, 4, 0, NONE);
        fits(y, "ahead of day 0", 1, 8, 0, NONE);
        fits(y, "the last house on day 0", 1, 9, 1, 0);
        due("one and the same day", y.hear(0, 1), 1);
        fits(y, "not that of another", 1, 9, 0, NONE);
    }

    // What is heard fits so many days, of which this is the least; it is forgotten then, with all else.
    private static void fits(BirthStreet x, String what, int house, int number, int many, int least) {
        x.hear(house, number);
        due(what + ", how many days", x.days(0), many);
        due(what + ", the least", x.days(1), least);
        x.forget();
    }

    private static void forget() {
        says(18, "Nothing is HEARD any more: how much was.");
        due("without a street", new BirthStreet().forget(), 0);
        due("none", street("h1,h2").forget(), 0);
        BirthStreet x = full();
        due("days ahead of it", x.days(0), 1);
        due("six", x.forget(), 6);
        due("again", x.forget(), 0);
        due("heard", x.count(7), 0);
        due("all days fit", x.days(0), 31);
        due("the least of them", x.days(1), 0);
        x.hear(4, 9);
        due("one", x.forget(), 1);
        due("the debts stay", x.count(5), 6);
    }

    private static void days() {
        says(19, "DAYS: what = 0 how many, 1 the least (NONE).");
        BirthStreet x = aged("h2,t6", 5);
        fits(x, "twins' 4 on the days 2 and 3", 1, 4, 2, 2);
        fits(x, "none", 1, 6, 0, NONE);
        says(19, "OUTSIDE;");
        range(OUTSIDE, "what", 0, 1, BirthStreetEdges::lived, BirthStreet::days);
        refused(OUTSIDE, "what -1 without a street", BirthStreet::new, y -> y.days(-1));
        refused(OUTSIDE, "what 2 without a street", BirthStreet::new, y -> y.days(2));
        says(19, "STATE: no STREET.");
        noStreet(y -> y.days(0));
        noStreet(y -> y.days(1));
        says(19, "DAYS: on which it can have been, so that all that is HEARD was so:");
        due("nothing is heard, day 0", street("h1,h2").days(0), 1);
        due("nothing is heard, day 30", aged("h1,h2", 30).days(0), 31);
        due("six, that were so on one day", full().days(0), 1);
        due("which it is", full().days(1), 9);
        BirthStreet y = aged("h0,b3,t0", 4);
        y.hear(1, 3);
        due("the burnt one's fits each", y.days(0), 5);
        y.hear(2, 1);
        due("twins' 1 fits two of them", y.days(0), 2);
        y.hear(0, 3);
        due("the house's 3 one of these", y.days(1), 3);
        y.hear(0, 3);
        due("heard again it is the same", y.days(0), 1);
        y.hear(0, 2);
        due("not two numbers at once", y.days(0), 0);
        says(19, "how many; the least.");
        BirthStreet z = aged("h0,h9", 2);
        z.birth(0);
        pass(z, 28);
        fits(z, "the house's 0, of day 2 too", 0, 0, 2, 0);
        fits(z, "the last day", 1, 39, 1, 30);
        fits(z, "the first day", 1, 9, 1, 0);
        fits(z, "the house's 1 on the days 1 and 3", 0, 1, 2, 1);
    }

    private static void ask() {
        says(20, "ASK;");
        due("the second", aged("b1,h1", 1).ask(), 1);
        due("the first", aged("h1,b1", 1).ask(), 0);
        due("the last of six", aged("b0,b1,b2,b3,b4,h0", 1).ask(), 5);
        says(20, "NONE.");
        BirthStreet none = aged("h0,h1", 2);
        none.hear(0, 9);
        due("no day fits", none.ask(), NONE);
        says(20, "STATE: no STREET.");
        noStreet(BirthStreet::ask);
        says(20, "ASK: of which HOUSE to ask which NUMBER it had then, so that fewest of these are left at worst:");
        due("twins of 0 and 0 beside a house", aged("t0,h0", 1).ask(), 1);
        due("twins of 0 and 1 beside a burnt one", aged("b9,t1", 1).ask(), 1);
        // Days 0 to 3: house 0 had 0 1 0 0, the twins 0 1 1 2.
        BirthStreet x = aged("h0,t1", 2);
        x.birth(0);
        x.day();
        x.birth(0);
        due("three at worst beside two", x.ask(), 1);
        x.hear(1, 1);
        due("of the days 1 and 2 alone", x.ask(), 0);
        BirthStreet mirrored = aged("t1,h0", 2);
        mirrored.birth(1);
        mirrored.day();
        mirrored.birth(1);
        due("the same, mirrored", mirrored.ask(), 0);
        mirrored.hear(0, 1);
        due("of the days 1 and 2 alone, mirrored", mirrored.ask(), 1);
        // Days 0 to 5: house 0 had 0 0 0 1 2 3, so three of 0; twins had 0 0 1 1 2 2, so two of each, though fewer numbers.
        BirthStreet y = street("h9,t9");
        y.birth(0);
        y.birth(1);
        y.day();
        y.birth(0);
        y.day();
        y.birth(0);
        pass(y, 3);
        due("by the worst, not by how many numbers", y.ask(), 1);
        BirthStreet z = aged("h0,h9", 30);
        z.hear(0, 30);
        due("day 30, on which house 1 had 39", z.ask(), 0);
        BirthStreet last = aged("h0,h9", 30);
        due("each unlike", last.ask(), 0);
        last.birth(0);
        due("0 on the first and on the last day", last.ask(), 1);
        says(20, "of like ones the least;");
        due("all alike", aged(many("h5", 6), 3).ask(), 0);
        due("two alike behind a worse one", aged("b5,h5,h5", 3).ask(), 1);
        due("a better one behind two alike", aged("b5,b5,h5", 3).ask(), 2);
        due("one day alone", street("b5,h5").ask(), 0);
        due("none beyond the last, of a street that is gone", behind("b1,b1,h0", 3, "b1,b1", 3).ask(), 0);
        BirthStreet six = street("t0,b0,b0,b0,b0,b0");
        for (int day = 1; day <= 5; day++) {
            six.day();
            if (day % 2 == 0) {
                six.birth(0);
            }
        }
        due("none beyond the sixth", six.ask(), 0);
        due("one day of many", full().ask(), 0);
        says(20, "none, if there are none.");
        BirthStreet w = street("h5,h5");
        w.hear(1, 5);
        due("one is left", w.ask(), 0);
        w.hear(1, 6);
        due("none is left", w.ask(), NONE);
        w.forget();
        due("all are left", w.ask(), 0);
    }

    private static void years() {
        says(21, "YEARS: what = 0 all WALKS, 1 all NUMBERS, 2 the SEED then.");
        BirthStreet x = street("h9,c5");
        due("walks", x.years(1, 0, 0), 1);
        due("numbers", x.years(1, 0, 1), 2);
        due("seed", x.years(1, 0, 2), 12345);
        says(21, "OUTSIDE: days (1 to 60), seed (0 at least), what;");
        range(OUTSIDE, "days", 1, 60, BirthStreetEdges::lived, (y, days) -> y.years(days, 0, 0));
        range(OUTSIDE, "days on day 30", 1, 60, BirthStreetEdges::full, (y, days) -> y.years(days, 7, 2));
        range(OUTSIDE, "seed", 0, HIGHEST, BirthStreetEdges::lived, (y, seed) -> y.years(1, seed, 1));
        range(OUTSIDE, "what", 0, 2, BirthStreetEdges::lived, (y, what) -> y.years(1, 0, what));
        refused(OUTSIDE, "days 0 without a street", BirthStreet::new, y -> y.years(0, 0, 0));
        refused(OUTSIDE, "days 61 without a street", BirthStreet::new, y -> y.years(61, 0, 0));
        refused(OUTSIDE, "seed -1 without a street", BirthStreet::new, y -> y.years(1, -1, 0));
        refused(OUTSIDE, "what -1 without a street", BirthStreet::new, y -> y.years(1, 0, -1));
        refused(OUTSIDE, "what 3 without a street", BirthStreet::new, y -> y.years(1, 0, 3));
        says(21, "STATE: no STREET.");
        noStreet(y -> y.years(1, 0, 0));
        noStreet(y -> y.years(60, HIGHEST, 2));
    }

    private static void yearsAsTheyWouldBe() {
        says(21, "YEARS by a SEED, as they would be: so many DAYS;");
        due("one", street("m0,b9").years(1, 0, 1), 1 + 9);
        due("sixty", street("m0,b9").years(60, 0, 1), 60 + 9);
        due("sixty behind day 30", aged("m9,b9", 30).years(60, 0, 1), 99 + 9);
        BirthStreet x = lived();
        x.years(60, 7, 0);
        due("nothing becomes of it", tale(x).equals(tale(lived())) ? 1 : 0, 1);
        due("from the ages of now on", bornIn(1, "m5,h9").years(1, 0, 1), 6 + 1);
        says(21, "on each there is a BIRTH in a HOUSE by a DRAW of how many there are, if there may be;");
        // Seed 0 draws place 0 of any street, three times.
        due("in a house", street("h9,h5").years(1, 0, 1), 1 + 6);
        due("in twins", street("t9,h5").years(1, 0, 1), 0 + 6);
        due("a cradle's too", street("h9,c5,c5").years(1, 0, 1), 1 + 1 + 6);
        due("none in a maid's, nor next door", street("m9,c5").years(1, 0, 1), 10 + 6);
        due("none in a burnt one's, nor next door", street("b9,c5").years(1, 0, 1), 9 + 6);
        // Seed 3 draws place 1 of 2.
        due("in the second house", street("m9,h5").years(1, 3, 1), 10 + 1);
        due("none in the second, a maid's", street("h9,m5").years(1, 3, 1), 10 + 6);
        due("on the third day, too", street("h9,m5").years(3, 0, 1), 1 + 8);
        due("a maid's draw is a draw", street("m9,m5").years(3, 0, 2), 654583775);
        says(21, "then the WALK is made; then the DAY goes by:");
        due("behind the birth, ahead of the day", street("h9,b0").years(1, 0, 0), 1);
        due("the next day's", street("h9,b0").years(2, 0, 0), 1 + 1);
        due("a maid's, grown beyond a burnt one", street("m0,b0").years(2, 0, 0), 1 + 2);
        says(21, "how long all WALKS are;");
        due("sixty of one", street("b1,b1").years(60, 0, 0), 60);
        due("sixty of twenty", street("b1,b3,b5,b4,b2,b0").years(60, 0, 0), 60 * 20);
        says(21, "what all NUMBERS are together in the end.");
        due("behind the last day", street("m0,m1").years(1, 0, 1), 1 + 2);
        due("half of the twins' 10", street("t9,m0").years(1, 3, 1), 5 + 1);
    }

    private static BigInteger next(long seed) {
        return BigInteger.valueOf(seed).multiply(BigInteger.valueOf(1103515245)).add(BigInteger.valueOf(12345))
            .mod(BigInteger.TWO.pow(31));
    }

    private static void draws() {
        says(21, "DRAWS: the next SEED each time: 1103515245 times it and 12345, its rest by 2 to the 31;");
        BirthStreet x = street("h1,h2");
        due("from 0", x.years(1, 0, 2), 12345);
        due("from 1", x.years(1, 1, 2), 1103527590);
        due("from 2, beyond 2 to the 31", x.years(1, 2, 2), 59559187);
        due("from the greatest but one", x.years(1, HIGHEST - 1, 2), 2087949151);
        due("from the greatest", x.years(1, HIGHEST, 2), 1043980748);
        due("to 0", x.years(1, 2088216195, 2), 0);
        due("to the greatest", x.years(1, 230538014, 2), HIGHEST);
        due("through 0", x.years(2, 2088216195, 2), 12345);
        for (int bit = 0; bit < 31; bit++) {
            due("from 2 to the " + bit, x.years(1, 1 << bit, 2), next(1 << bit).intValueExact());
        }
        long seed = 77;
        for (int days = 1; days <= 60; days++) {
            seed = next(seed).longValueExact();
            due(days + " times", x.years(days, 77, 2), seed);
        }
        says(21, "then that by 65536 (rounded down), its rest.");
        int[][] leastSeedOfDraw = {{0, 3}, {0, 5, 1}, {0, 4, 1, 3}, {0, 6, 3, 1, 7}, {0, 5, 1, 11, 7, 3}};
        for (int[] seeds : leastSeedOfDraw) {
            for (int house = 0; house < seeds.length; house++) {
                due("draw " + house + " of " + seeds.length, bornBy(seeds[house], seeds.length), house);
            }
        }
        for (int many = 2; many <= 6; many++) {
            due("by 65535, of " + many, bornBy(2032319262, many), 0);
            due("by 65536, of " + many, bornBy(1742513795, many), 1);
            due("by the greatest, of " + many, bornBy(230538014, many), 32767 % many);
            due("by 0, of " + many, bornBy(2088216195, many), 0);
        }
    }

    // In which of so many houses a year of one day has its birth.
    private static int bornBy(int seed, int many) {
        BirthStreet x = street("h1,h2,h3,h4,h5,h6".substring(0, 3 * many - 1));
        return x.count(3) + many - x.years(1, seed, 1) - 1;
    }

    // ---- what is told of all

    private static void image() {
        says(22, "An IMAGE is kept (one; the latest): which DAY it is.");
        BirthStreet x = street("h4,c3");
        due("day 0", x.image(), 0);
        pass(x, 5);
        due("day 5", x.image(), 5);
        pass(x, 25);
        due("the latest", x.restore(), 5);
        due("the earlier one is gone", x.restore(), 5);
        pass(x, 25);
        due("day 30", x.image(), 30);
        due("the latest is that of day 30", x.restore(), 30);
        BirthStreet y = lived();
        due("of a later day", y.image(), 4);
        due("it changes nothing of now", sameDigest(lived(), BirthStreet::image), 1);
        says(22, "STATE: no STREET.");
        noStreet(BirthStreet::image);
    }

    private static int sameDigest(BirthStreet x, ToLongFunction<BirthStreet> call) {
        long before = x.digest();
        call.applyAsLong(x);
        return before == x.digest() ? 1 : 0;
    }

    private static void restore() {
        says(22, "An IMAGE keeps the DAY, AGES, those of earlier DAYS, BIRTHS, DEBTS, what is HEARD.");
        BirthStreet x = lived();
        due("restored", x.restore(), 2);
        due("the day", x.count(1), 2);
        ages(x, "then", 2, 2, 10, 4, 4, 1);
        births(x, "then", 1, 1, 0, 0, 0, 1);
        due("births", x.count(2), 2);
        due("debts", x.count(5), 2);
        due("owed to the maid", x.about(3, 4), 2);
        due("owed by all", x.count(6), 2);
        due("heard", x.count(7), 1);
        due("the one day that fits", x.days(0), 1);
        due("which it is", x.days(1), 0);
        int[][] earlier = {{0, 1}, {0, 1}, {4, 4}, {2, 3}, {4, 4}, {1, 0}};
        for (int house = 0; house < 6; house++) {
            for (int day = 0; day <= 1; day++) {
                due("number of " + house + " on " + day, x.then(house, day), earlier[house][day]);
            }
        }
        due("no later day", x.then(0, 3), UNKNOWN);
        due("not the page", x.count(8), 7);
        due("paid", x.pay(), 9);
        keptAsItWas("empty", () -> street(LONGEST), y -> fill(y).pay());
        keptAsItWas("full", () -> fill(aged(LONGEST, 30)), y -> y.pay() + y.forget() + y.birth(0) + y.birth(5));
        keptAsItWas("full, and other things behind it", () -> fill(street(LONGEST)), BirthStreetEdges::others);
        says(23, "It goes on from the IMAGE: which DAY it is.");
        due("again", x.restore(), 2);
        due("the debts again", x.count(5), 2);
        due("the next day", x.day(), 3);
        x.birth(2);
        due("another birth on it", x.then(2, 3), 0);
        due("restored once more", x.restore(), 2);
        x.day();
        due("not that birth", x.then(2, 3), 5);
        BirthStreet y = street("h0,h5");
        y.image();
        pass(y, 30);
        due("from day 30 to day 0", y.restore(), 0);
        y.birth(1);
        pass(y, 1);
        due("an earlier day, lived anew", y.then(1, 0), 0);
        due("behind it", y.then(1, 1), 1);
        due("up to day 30 again", pass(y, 28).day(), 30);
    }

    // Of two objects made alike and kept one is changed and restored; both tell the same then.
    private static void keptAsItWas(String what, Supplier<BirthStreet> made, ToLongFunction<BirthStreet> change) {
        BirthStreet changed = made.get();
        int day = changed.image();
        change.applyAsLong(changed);
        due("the day of one that was " + what, changed.restore(), day);
        BirthStreet same = made.get();
        same.image();
        due("one that was " + what + ", alike", tale(changed).equals(tale(same)) ? 1 : 0, 1);
    }

    private static BirthStreet fill(BirthStreet x) {
        for (int i = 0; i < 6; i++) {
            x.debt(i + 1, i);
            x.hear(i, i);
            x.birth(i);
            x.day();
        }
        return x;
    }

    private static long others(BirthStreet x) {
        long paid = x.pay() + x.forget();
        for (int i = 0; i < 6; i++) {
            paid += x.debt(9 - i, 90 + i) + x.hear(5 - i, 80 + i) + x.birth(5 - i) + x.day();
        }
        return paid;
    }

    private static void restoreState() {
        says(23, "STATE: none was kept, or a STREET was read since (of the same text, too).");
        refused(STATE, "a new object", BirthStreet::new, BirthStreet::restore);
        refused(STATE, "a street without one", () -> aged("h1,h2", 3), BirthStreet::restore);
        refused(STATE, "a refused image", () -> refusedImage("h1,h2"), BirthStreet::restore);
        refused(STATE, "another street was read", () -> imageAhead("t1,h2"), BirthStreet::restore);
        refused(STATE, "the same street was read", () -> imageAhead("h1,h2"), BirthStreet::restore);
        BirthStreet x = imageAhead("h1,h2");
        due("an image of the new street", x.image(), 0);
        x.day();
        due("of which it goes on", x.restore(), 0);
        BirthStreet y = lived();
        due("a page that is no street", y.street(), STATE);
        due("leaves it", y.restore(), 2);
        y.blank();
        due("a blank leaves it", y.restore(), 2);
        y.street();
        due("an empty page leaves it", y.restore(), 2);
        type(y, "h1,h2");
        due("a street that is not read yet leaves it", y.restore(), 2);
    }

    private static BirthStreet refusedImage(String text) {
        BirthStreet x = new BirthStreet();
        x.image();
        type(x, text);
        x.street();
        return x;
    }

    private static BirthStreet imageAhead(String text) {
        BirthStreet x = aged("h1,h2", 1);
        x.image();
        type(x, text);
        x.street();
        return x;
    }

    private static void count() {
        says(24, "How many: 0 HOUSES,");
        counts(0, 0, new BirthStreet(), 2, street("h1,h2"), 6, full());
        says(24, "1 the DAY,");
        counts(1, 0, new BirthStreet(), 1, aged("h1,h2", 1), 30, full());
        says(24, "2 BIRTHS (birth()),");
        counts(2, 0, full(), 1, bornIn(0, "h1,c2"), 3, lived());
        BirthStreet x = street("h1,c2,m3");
        x.birth(2);
        x.birth(3);
        x.years(60, 0, 0);
        x.cheap(0, 0);
        counts(2, 0, x);
        says(24, "3 all NUMBERS together,");
        counts(3, 0, new BirthStreet(), 0, street("h0,t1"), 21, street("h3,t9,c5,m4,h3,c2"), 6 * 39, aged(many("h9", 6), 30));
        says(24, "4 unlike NUMBERS,");
        counts(4, 0, new BirthStreet(), 1, street(many("h0", 6)), 6, street("h0,h1,h2,h3,h4,h5"), 2, street("h5,h6,h5"));
        counts(4, 1, street("h4,t9"), 1, street("h4,t8"), 2, street("h4,t7"), 2, street("h4,h5,h5"), 2, street("h4,h4,h5"));
        says(24, "5 DEBTS,");
        counts(5, 0, new BirthStreet(), 0, indebted(0), 1, indebted(1), 6, full());
        says(24, "6 what all OWE,");
        counts(6, 0, new BirthStreet(), 0, owing("h1,h2", 9, 3), 9, owing("h1,h2", 9, 2), 6, indebted(6), 1 + 2 + 3, full());
        says(24, "7 what is HEARD,");
        counts(7, 0, new BirthStreet(), 0, street("h1,h2"), 2, lived(), 6, full());
        says(24, "8 letters of THE PAGE,");
        counts(8, 0, new BirthStreet(), 1, page("~"), 0, street("h1,h2"), 19, full());
        says(24, "9 how often a STREET was read.");
        counts(9, 0, new BirthStreet(), 0, page("h1,h2"), 1, street("h1,h2"), 2, imageAhead("h1,h2"));
        BirthStreet y = typed("h1,h2,");
        y.street();
        y.restore();
        counts(9, 1, y);
        BirthStreet z = imageAhead("h1,h2");
        z.image();
        z.restore();
        counts(9, 2, z);
        says(24, "OUTSIDE.");
        range(OUTSIDE, "what", 0, 9, BirthStreetEdges::lived, BirthStreet::count);
        range(OUTSIDE, "what without a street", 0, 9, BirthStreet::new, BirthStreet::count);
    }

    // By turns what is due, and of which object.
    private static void counts(int what, Object... dueOf) {
        for (int i = 0; i < dueOf.length; i += 2) {
            due("count " + what + ", case " + i / 2, ((BirthStreet) dueOf[i + 1]).count(what), (Integer) dueOf[i]);
        }
    }

    private static void countEach() {
        says(24, "How many: 0 HOUSES,");
        BirthStreet x = lived();
        ages(x, "on day 4", 4, 4, 1, 6, 4, 3);
        int[] want = {6, 4, 3, 4 + 4 + 0 + 6 + 4 + 3, 4, 2, 5, 2, 7, 1};
        for (int what = 0; what <= 9; what++) {
            due("count " + what, x.count(what), want[what]);
        }
    }

    private static void calls() {
        says(24, "An object is used for at most 512 calls after it has been made; what later calls answer is free.");
        BirthStreet x = street("h1,c2");
        for (int call = 7; call <= 509; call++) {
            x.birth(0);
        }
        due("call 510", x.about(0, 3), 503);
        due("call 511", x.about(1, 3), 503);
        due("call 512", x.count(2), 503);
        BirthStreet y = new BirthStreet();
        for (int times = 1; times <= 85; times++) {
            type(y, "b1,b2");
            y.street();
        }
        due("call 511", y.count(9), 85);
        due("call 512", y.walk(), 1);
        BirthStreet z = street("h9,h9");
        for (int call = 7; call <= 511; call++) {
            due("a day, call " + call, z.day(), call <= 36 ? call - 6 : FULL);
        }
        due("call 512", z.then(1, 30), 39);
    }

    private static void digest() {
        says(25, "h is 1033, then for each of these numbers, in order, 31 times h, and it (as longs, wrapping):");
        due("ten zeros", new BirthStreet().digest(), wrapped(0, 0, 0, 0, 0, 0, 0, 0, 0, 0));
        due("wrapping, by hand", new BirthStreet().digest(), 1033L * 31 * 31 * 31 * 31 * 31 * 31 * 31 * 31 * 31 * 31);
        due("beyond 2 to the 63", page("~".repeat(19)).digest(),
            wrapped(126, 126, 126, 126, 126, 126, 126, 126, 126, 126, 126, 126, 126, 126, 126, 126, 126, 126, 126,
                0, 0, 0, 0, 0, 0, 0, 0, 19, 0));
        says(25, "of each HOUSE what about() tells for 0 to 5, its NUMBER on each DAY from 0 to now;");
        due("on day 0", street("h4,c9").digest(), wrapped(
            0, 4, 4, 0, 0, 0, 4,
            3, 9, 9, 0, 0, 1, 9,
            1, 1, 1, 1, 0, 0,
            2, 0, 0, 13, 2, 0, 0, 0, 0, 1));
        due("of the last of six", digestTold(street(LONGEST)), street(LONGEST).digest());
        says(25, "with a STREET (all up to the next semicolon) WALK, what cheap() tells of 9 for 0 and 1, "
            + "what days() tells for 0 and 1, ASK;");
        due("without a street none of these", page("h").digest(), wrapped('h', 0, 0, 0, 0, 0, 0, 0, 0, 1, 0));
        due("no cheap, no day, none to ask", atOdds("m9,m9").digest(), wrapped(
            2, 9, 9, 0, 0, 0, 9,
            2, 9, 9, 0, 0, 1, 9,
            1, NONE, NONE, 0, NONE, NONE,
            2, 0, 0, 18, 1, 0, 0, 1, 0, 1));
        says(25, "letters of THE PAGE, each by its code;");
        due("32 and 126", page(" ~").digest(), wrapped(32, 126, 0, 0, 0, 0, 0, 0, 0, 0, 2, 0));
        due("in order", page("~ ").digest(), wrapped(126, 32, 0, 0, 0, 0, 0, 0, 0, 0, 2, 0));
        due("none that were blanked", blanked("~ ").digest(), new BirthStreet().digest());
        says(25, "what count() tells for 0 to 9.");
        due("with letters", lived().digest(), digestTold(lived()));
    }

    private static BirthStreet atOdds(String text) {
        BirthStreet x = street(text);
        x.hear(0, 0);
        return x;
    }

    private static void digestOfAll() {
        says(25, "h is 1033, then for each of these numbers, in order, 31 times h, and it (as longs, wrapping):");
        BirthStreet full = full();
        due("with all full", full.digest(), digestTold(full()));
        due("again", full.digest(), full.digest());
        due("with all full, of day 9", restored(full).digest(), digestTold(restored(full())));
        due("it changes nothing", tale(asked(full(), BirthStreet::digest)).equals(tale(full())) ? 1 : 0, 1);
        due("nor without a street", tale(asked(new BirthStreet(), BirthStreet::digest)).equals(tale(new BirthStreet())) ? 1 : 0, 1);
    }

    private static BirthStreet asked(BirthStreet x, ToLongFunction<BirthStreet> call) {
        call.applyAsLong(x);
        return x;
    }

    private static long wrapped(long... numbers) {
        BigInteger h = BigInteger.valueOf(1033);
        for (long number : numbers) {
            h = h.multiply(BigInteger.valueOf(31)).add(BigInteger.valueOf(number));
        }
        return h.longValue();
    }

    // The page's letters can't be asked for one by one: that of lived() and full() is known.
    private static long digestTold(BirthStreet x) {
        List<Integer> told = new ArrayList<>();
        for (int house = 0; house < x.count(0); house++) {
            for (int what = 0; what <= 5; what++) {
                told.add(x.about(house, what));
            }
            for (int day = 0; day <= x.count(1); day++) {
                told.add(x.then(house, day));
            }
        }
        told.addAll(List.of(x.walk(), x.cheap(9, 0), x.cheap(9, 1), x.days(0), x.days(1), x.ask()));
        String page = x.count(8) == 19 ? LONGEST + ",h" : x.count(8) == 7 ? "h4,t5,c" : "";
        page.chars().forEach(told::add);
        for (int what = 0; what <= 9; what++) {
            told.add(x.count(what));
        }
        return wrapped(told.stream().mapToLong(n -> n).toArray());
    }

    // ---- refusals

    private static void refusals() {
        says(25, "Refusals, of several the first as told by each call:");
        due("letter: outside, full", full().letter(127), OUTSIDE);
        due("about: unknown, outside", full().about(6, 6), UNKNOWN);
        due("as: unknown, outside", full().as(-1, 5), UNKNOWN);
        due("birth: unknown, a maid's no more", new BirthStreet().birth(3), UNKNOWN);
        due("debt: outside, state", new BirthStreet().debt(10, 0), OUTSIDE);
        due("debt: outside, full", full().debt(1, 100), OUTSIDE);
        due("cheap: outside, state", new BirthStreet().cheap(401, 0), OUTSIDE);
        due("hear: unknown, outside, full", full().hear(6, 100), UNKNOWN);
        due("hear: unknown, full", full().hear(6, 0), UNKNOWN);
        due("hear: outside, full", full().hear(0, 100), OUTSIDE);
        due("days: outside, state", new BirthStreet().days(2), OUTSIDE);
        due("years: outside, state", new BirthStreet().years(61, 0, 0), OUTSIDE);
        says(25, "UNKNOWN (a number names nothing), OUTSIDE (it is not as told), STATE (as told), FULL;");
        due("UNKNOWN", BirthStreet.UNKNOWN, -101);
        due("OUTSIDE", BirthStreet.OUTSIDE, -102);
        due("STATE", BirthStreet.STATE, -103);
        due("FULL", BirthStreet.FULL, -104);
        due("NONE is no refusal", BirthStreet.NONE, -1);
        says(25, "they change nothing.");
        due("all of them, one behind the other", tale(refusedAll(lived())).equals(tale(lived())) ? 1 : 0, 1);
        due("with all full", tale(refusedAll(filled(full()))).equals(tale(full())) ? 1 : 0, 1);
        due("without a street", tale(refusedAll(new BirthStreet())).equals(tale(new BirthStreet())) ? 1 : 0, 1);
    }

    private static BirthStreet filled(BirthStreet x) {
        due("a letter", x.letter('h'), FULL);
        due("a day", x.day(), FULL);
        due("a debt", x.debt(1, 1), FULL);
        due("a thing heard", x.hear(0, 1), FULL);
        return x;
    }

    // What is refused in any state: wrong numbers, a maid's birth, a page that is no street.
    private static BirthStreet refusedAll(BirthStreet x) {
        int[] got = {x.letter(31), x.letter(127), x.street(), x.about(6, 0), x.about(-1, 0), x.as(6, 0), x.as(-1, 0),
            x.birth(6), x.birth(-1), x.birth(3), x.then(6, 0), x.then(0, 31), x.then(0, -1), x.goesTo(0, 31), x.goesTo(0, -1),
            x.debt(0, 0), x.debt(10, 0), x.debt(1, -1), x.debt(1, 100), x.cheap(-1, 0), x.cheap(401, 0), x.cheap(0, 2),
            x.when(6, 0), x.when(-1, 0), x.hear(6, 0), x.hear(0, 100), x.hear(0, -1), x.days(-1), x.days(2),
            x.years(0, 0, 0), x.years(61, 0, 0), x.years(1, -1, 0), x.years(1, 0, 3), x.count(-1), x.count(10)};
        for (int i = 0; i < got.length; i++) {
            due("refusal " + i, got[i] < NONE ? 1 : 0, 1);
        }
        return x;
    }
}
