// For each promise of ../shared/DOC.md what it says, at its edges, and what it refuses.
public final class BirthStreetPromises {
    private static final int NONE = -1, UNKNOWN = -101, OUTSIDE = -102, STATE = -103, FULL = -104;
    private static final int LOWEST = Integer.MIN_VALUE, HIGHEST = Integer.MAX_VALUE;

    private static int wrong = 0;
    private static int made = 0;

    private static void due(int promise, String what, long got, long want) {
        made++;
        if (got != want) {
            wrong++;
            System.out.println("promise " + promise + ": " + what + " answered " + got + ", due is " + want);
        }
    }

    private static void type(BirthStreet x, String text) {
        for (int i = 0; i < text.length(); i++) {
            x.letter(text.charAt(i));
        }
    }

    private static BirthStreet page(String text) {
        BirthStreet x = new BirthStreet();
        type(x, text);
        return x;
    }

    private static BirthStreet street(String text) {
        BirthStreet x = page(text);
        if (x.street() < 2) {
            wrong++;
            System.out.println("no street: " + text);
        }
        return x;
    }

    private static void pass(BirthStreet x, int days) {
        for (int i = 0; i < days; i++) {
            x.day();
        }
    }

    private static long digestOf(long... numbers) {
        long h = 1033;
        for (long number : numbers) {
            h = 31 * h + number;
        }
        return h;
    }

    // Neither a refusal nor a call that only tells changes nothing that the digest tells.
    private interface Call {
        long on(BirthStreet x);
    }

    private static void unchanged(int promise, String what, BirthStreet x, Call call, int want) {
        long before = x.digest();
        due(promise, what, call.on(x), want);
        due(promise, "digest behind " + what, x.digest(), before);
    }

    public static void main(String[] args) {
        aNewObject();
        letter();
        blank();
        fault();
        street();
        about();
        as();
        birth();
        day();
        then();
        goesTo();
        walk();
        debt();
        pay();
        cheap();
        when();
        hear();
        forget();
        days();
        ask();
        years();
        image();
        restore();
        count();
        digest();
        System.out.println(made + " answers, " + wrong + " not as due");
        if (wrong != 0) {
            System.exit(1);
        }
    }

    private static void aNewObject() {
        BirthStreet x = new BirthStreet();
        for (int what = 0; what <= 9; what++) {
            due(1, "count " + what, x.count(what), 0);
        }
        due(1, "about", x.about(0, 0), UNKNOWN);
        due(1, "as", x.as(0, 0), UNKNOWN);
        due(1, "birth", x.birth(0), UNKNOWN);
        due(1, "day", x.day(), STATE);
        due(1, "then", x.then(0, 0), UNKNOWN);
        due(1, "goesTo", x.goesTo(0, 0), UNKNOWN);
        due(1, "walk", x.walk(), STATE);
        due(1, "debt", x.debt(1, 0), STATE);
        due(1, "pay", x.pay(), 0);
        due(1, "cheap", x.cheap(400, 0), STATE);
        due(1, "when", x.when(0, 0), UNKNOWN);
        due(1, "hear", x.hear(0, 0), UNKNOWN);
        due(1, "forget", x.forget(), 0);
        due(1, "days", x.days(0), STATE);
        due(1, "ask", x.ask(), STATE);
        due(1, "years", x.years(1, 0, 0), STATE);
        due(1, "image", x.image(), STATE);
        due(1, "restore", x.restore(), STATE);
        due(1, "fault", x.fault(), 0);
        due(1, "blank", x.blank(), 0);
        due(1, "street", x.street(), STATE);
        due(1, "two objects share nothing", page("h").count(8) + x.count(8), 1);
    }

    private static void letter() {
        BirthStreet x = new BirthStreet();
        unchanged(2, "31", x, y -> y.letter(31), OUTSIDE);
        unchanged(2, "127", x, y -> y.letter(127), OUTSIDE);
        unchanged(2, "lowest", x, y -> y.letter(LOWEST), OUTSIDE);
        unchanged(2, "highest", x, y -> y.letter(HIGHEST), OUTSIDE);
        due(2, "32", x.letter(32), 1);
        due(2, "126", x.letter(126), 2);
        for (int i = 3; i <= 19; i++) {
            due(2, "the letter " + i, x.letter('h'), i);
        }
        unchanged(2, "above 19", x, y -> y.letter('h'), FULL);
        unchanged(2, "outside comes ahead of full", x, y -> y.letter(31), OUTSIDE);
        x.blank();
        due(2, "behind a blank", x.letter('h'), 1);
    }

    private static void blank() {
        BirthStreet x = page("h0,t1");
        due(3, "of five", x.blank(), 5);
        due(3, "of none", x.blank(), 0);
        due(3, "nothing is left", x.count(8), 0);
        due(3, "nothing to read", x.street(), STATE);
        BirthStreet y = street("h0,t1");
        type(y, "xyz");
        due(3, "of three", y.blank(), 3);
        due(3, "the street stays", y.count(0), 2);
    }

    private static void fault() {
        due(4, "empty", new BirthStreet().fault(), 0);
        String right = "h0,t1,m2,c3,b4,h9";
        for (int i = 1; i <= right.length(); i++) {
            due(4, "the first " + i, page(right.substring(0, i)).fault(), i);
        }
        for (int i = 0; i < right.length(); i++) {
            due(4, "another sign at " + i, page(right.substring(0, i) + "x" + right.substring(i + 1)).fault(), i);
        }
        due(4, "a seventh house", page(right + ",h").fault(), 17);
        due(4, "a digit for a kind", page("0").fault(), 0);
        due(4, "a great letter", page("H0").fault(), 0);
        due(4, "a letter for an age", page("hh").fault(), 1);
        due(4, "behind 9", page("h:").fault(), 1);
        due(4, "ahead of 0", page("h/").fault(), 1);
        due(4, "two digits", page("h10").fault(), 2);
        due(4, "a semicolon", page("h0;").fault(), 2);
        due(4, "a blank ahead", page(" h0").fault(), 0);
        due(4, "two commas", page("h0,,").fault(), 3);
        due(4, "the first of two", page("hx,y").fault(), 1);
        for (char c = 'a'; c <= 'z'; c++) {
            due(4, "kind " + c, page("" + c).fault(), "htmcb".indexOf(c) < 0 ? 0 : 1);
        }
    }

    private static void street() {
        due(5, "two", page("h0,h0").street(), 2);
        due(5, "three", page("h0,t1,m2").street(), 3);
        due(5, "six", page("h0,t1,m2,c3,b4,h9").street(), 6);
        unchanged(5, "one", page("h0"), y -> y.street(), STATE);
        unchanged(5, "a comma behind one", page("h0,"), y -> y.street(), STATE);
        unchanged(5, "half a house", page("h0,t"), y -> y.street(), STATE);
        unchanged(5, "a comma behind two", page("h0,t1,"), y -> y.street(), STATE);
        unchanged(5, "a comma behind six", page("h0,t1,m2,c3,b4,h9,"), y -> y.street(), STATE);
        unchanged(5, "a fault", page("h0,x1"), y -> y.street(), STATE);
        unchanged(5, "a fault at the end", page("h0,hx"), y -> y.street(), STATE);
        unchanged(5, "an empty page", new BirthStreet(), y -> y.street(), STATE);
        due(5, "the page is empty then", street("h0,h0").count(8), 0);
        BirthStreet x = street("h5,t6,m7");
        x.birth(0);
        x.day();
        x.debt(3, 0);
        x.hear(0, 0);
        x.image();
        type(x, "h1");
        unchanged(5, "the old one stays", x, y -> y.street(), STATE);
        due(5, "its houses", x.count(0), 3);
        due(5, "its image", x.restore(), 1);
        type(x, ",t8");
        due(5, "another one", x.street(), 2);
        due(5, "house 0's age", x.about(0, 1), 1);
        due(5, "house 1's age", x.about(1, 1), 8);
        due(5, "house 1's kind", x.about(1, 0), 1);
        due(5, "no house 2", x.about(2, 0), UNKNOWN);
        due(5, "births in 0", x.about(0, 3), 0);
        due(5, "day", x.count(1), 0);
        due(5, "births", x.count(2), 0);
        due(5, "debts", x.count(5), 0);
        due(5, "heard", x.count(7), 0);
        due(5, "read", x.count(9), 2);
        due(5, "no image", x.restore(), STATE);
        due(5, "earlier days", x.then(0, 1), UNKNOWN);
    }

    private static void about() {
        BirthStreet x = street("h8,t9,m2,c3,b2,t3");
        int[][] want = {
            {0, 8, 8, 0, 0, 5}, {1, 9, 4, 0, 0, 4}, {2, 2, 2, 0, 0, 1},
            {3, 3, 3, 0, 0, 3}, {4, 2, 2, 0, 0, 2}, {1, 3, 1, 0, 0, 0}};
        for (int house = 0; house < 6; house++) {
            for (int what = 0; what <= 5; what++) {
                due(6, "about " + house + " " + what, x.about(house, what), want[house][what]);
            }
        }
        x.debt(4, 2);
        x.debt(3, 2);
        x.debt(9, 99);
        due(6, "owed by the least place", x.about(2, 4), 7);
        due(6, "not by the like one", x.about(4, 4), 0);
        pass(x, 1);
        due(6, "the number went to the burnt one", x.about(4, 4), 7);
        due(6, "not owed any more", x.about(2, 4), 0);
        due(6, "twins' next age", x.about(1, 1), 10);
        due(6, "twins' next number", x.about(1, 2), 5);
        due(6, "a burnt one's age", x.about(4, 1), 2);
        BirthStreet y = street("c5,c0,c5,h1");
        y.birth(0);
        due(6, "births in 0", y.about(0, 3), 1);
        due(6, "borrowed though it had 0", y.about(1, 3), 1);
        due(6, "not further", y.about(2, 3), 0);
        y.birth(2);
        due(6, "not from behind", y.about(1, 3), 1);
        due(6, "a house borrows nothing", y.about(3, 3), 0);
        unchanged(6, "house -1", x, z -> z.about(-1, 0), UNKNOWN);
        unchanged(6, "house 6", x, z -> z.about(6, 0), UNKNOWN);
        unchanged(6, "house 4 of 4", y, z -> z.about(4, 0), UNKNOWN);
        unchanged(6, "highest", x, z -> z.about(HIGHEST, 0), UNKNOWN);
        unchanged(6, "what -1", x, z -> z.about(0, -1), OUTSIDE);
        unchanged(6, "what 6", x, z -> z.about(0, 6), OUTSIDE);
        unchanged(6, "unknown comes first", x, z -> z.about(6, 6), UNKNOWN);
    }

    private static void as() {
        BirthStreet x = street("h0,t0,m0,c0,b0");
        int[] kindsOf = {0b00001, 0b00011, 0b00101, 0b01001, 0b10101};
        for (int house = 0; house < 5; house++) {
            for (int kind = 0; kind < 5; kind++) {
                due(7, "as " + house + " " + kind, x.as(house, kind), (kindsOf[house] >> kind & 1) == 1 ? house : NONE);
            }
        }
        unchanged(7, "house 5", x, y -> y.as(5, 0), UNKNOWN);
        unchanged(7, "house -1", x, y -> y.as(-1, 0), UNKNOWN);
        unchanged(7, "kind 5", x, y -> y.as(0, 5), OUTSIDE);
        unchanged(7, "kind -1", x, y -> y.as(0, -1), OUTSIDE);
        unchanged(7, "unknown comes first", x, y -> y.as(5, 5), UNKNOWN);
    }

    private static void birth() {
        BirthStreet x = street("h5,c6,c7,t8,m9,c4");
        due(8, "with a cradle next door", x.birth(0), 2);
        due(8, "its age", x.about(0, 1), 0);
        due(8, "the cradle's age", x.about(1, 1), 0);
        due(8, "not further", x.about(2, 1), 7);
        due(8, "the cradle had 0 ahead", x.birth(0), 2);
        due(8, "in a cradle ahead of one", x.birth(1), 2);
        due(8, "the next cradle's age", x.about(2, 1), 0);
        due(8, "in twins ahead of a maid", x.birth(3), 1);
        due(8, "twins' number", x.about(3, 2), 0);
        due(8, "the maid's age", x.about(4, 1), 9);
        due(8, "in the last", x.birth(5), 1);
        due(8, "births", x.count(2), 5);
        due(8, "house 0's births", x.about(0, 3), 2);
        due(8, "house 1's births", x.about(1, 3), 3);
        due(8, "house 2's births", x.about(2, 3), 1);
        due(8, "house 5's births", x.about(5, 3), 1);
        type(x, "h1,h1");
        x.street();
        due(8, "where an earlier street had a cradle", x.birth(1), 1);
        x = street("h5,c6,c7,t8,m9,c4");
        unchanged(8, "a maid", x, y -> y.birth(4), STATE);
        unchanged(8, "a burnt one", street("h1,b1,c3"), y -> y.birth(1), STATE);
        unchanged(8, "house 6", x, y -> y.birth(6), UNKNOWN);
        unchanged(8, "house -1", x, y -> y.birth(-1), UNKNOWN);
        unchanged(8, "lowest", x, y -> y.birth(LOWEST), UNKNOWN);
    }

    private static void day() {
        BirthStreet x = street("h9,t9,m9,c9,b9");
        for (int day = 1; day <= 30; day++) {
            due(9, "day", x.day(), day);
            due(9, "a house on " + day, x.about(0, 1), 9 + day);
            due(9, "twins on " + day, x.about(1, 2), (9 + day) / 2);
            due(9, "a maid on " + day, x.about(2, 1), 9 + day);
            due(9, "a cradle on " + day, x.about(3, 1), 9 + day);
            due(9, "a burnt one on " + day, x.about(4, 1), 9);
        }
        unchanged(9, "behind day 30", x, y -> y.day(), FULL);
        unchanged(9, "no street", new BirthStreet(), y -> y.day(), STATE);
    }

    private static void then() {
        BirthStreet x = street("h3,t7,b5");
        x.birth(0);
        due(10, "now is behind the births", x.then(0, 0), 0);
        x.day();
        x.day();
        x.birth(1);
        x.day();
        int[][] want = {{0, 1, 2, 3}, {3, 4, 0, 0}, {5, 5, 5, 5}};
        for (int house = 0; house < 3; house++) {
            for (int day = 0; day <= 3; day++) {
                due(10, "then " + house + " " + day, x.then(house, day), want[house][day]);
            }
        }
        pass(x, 27);
        due(10, "day 29", x.then(0, 29), 29);
        due(10, "day 30", x.then(0, 30), 30);
        unchanged(10, "day 31", x, y -> y.then(0, 31), UNKNOWN);
        unchanged(10, "day -1", x, y -> y.then(0, -1), UNKNOWN);
        unchanged(10, "house 3", x, y -> y.then(3, 0), UNKNOWN);
        unchanged(10, "house -1", x, y -> y.then(-1, 0), UNKNOWN);
        unchanged(10, "tomorrow", street("h0,h0"), y -> y.then(0, 1), UNKNOWN);
    }

    private static void goesTo() {
        BirthStreet x = street("h3,t6,b3");
        due(11, "the least place", x.goesTo(3, 0), 0);
        x.birth(0);
        due(11, "behind a birth", x.goesTo(3, 0), 1);
        x.day();
        x.day();
        due(11, "the burnt one", x.goesTo(3, 2), 2);
        due(11, "twins on day 1", x.goesTo(3, 1), 1);
        due(11, "house 0 on day 2", x.goesTo(2, 2), 0);
        due(11, "nobody", x.goesTo(9, 1), NONE);
        due(11, "a number below 0", x.goesTo(-1, 0), NONE);
        due(11, "the highest number", x.goesTo(HIGHEST, 0), NONE);
        unchanged(11, "tomorrow", x, y -> y.goesTo(3, 3), UNKNOWN);
        unchanged(11, "day -1", x, y -> y.goesTo(3, -1), UNKNOWN);
        unchanged(11, "no street", new BirthStreet(), y -> y.goesTo(0, 0), UNKNOWN);
    }

    private static void walk() {
        due(12, "like numbers", street("h1,h1,h1").walk(), 2);
        due(12, "from the end", street("h3,h2,h1").walk(), 4);
        due(12, "to and fro", street("h0,h2,h4,h5,h3,h1").walk(), 15);
        due(12, "twins halve", street("h4,t9,h3").walk(), 5);
        due(12, "a twin's like number", street("t3,h1").walk(), 1);
        BirthStreet x = street("h0,h3,b3");
        due(12, "on day 0", x.walk(), 2);
        x.day();
        due(12, "on day 1", x.walk(), 3);
        x.birth(1);
        due(12, "behind a birth", x.walk(), 4);
        unchanged(12, "no street", new BirthStreet(), y -> y.walk(), STATE);
    }

    private static void debt() {
        BirthStreet x = street("h1,b1");
        due(13, "nobody's", x.debt(9, 99), 1);
        due(13, "least", x.debt(1, 0), 2);
        due(13, "number 1's", x.debt(4, 1), 3);
        due(13, "house 0 owes", x.about(0, 4), 4);
        due(13, "house 1 owes not", x.about(1, 4), 0);
        due(13, "all owe", x.count(6), 4);
        x.day();
        due(13, "house 1 owes then", x.about(1, 4), 4);
        x.birth(0);
        due(13, "house 0 owes the other then", x.about(0, 4), 1);
        due(13, "a fourth", x.debt(1, 1), 4);
        due(13, "a fifth", x.debt(1, 1), 5);
        due(13, "a sixth", x.debt(1, 1), 6);
        unchanged(13, "a seventh", x, y -> y.debt(1, 1), FULL);
        unchanged(13, "outside comes ahead of full", x, y -> y.debt(10, 1), OUTSIDE);
        unchanged(13, "much 0", x, y -> y.debt(0, 1), OUTSIDE);
        unchanged(13, "number -1", x, y -> y.debt(1, -1), OUTSIDE);
        unchanged(13, "number 100", x, y -> y.debt(1, 100), OUTSIDE);
        unchanged(13, "no street", new BirthStreet(), y -> y.debt(1, 1), STATE);
        unchanged(13, "outside comes ahead of no street", new BirthStreet(), y -> y.debt(0, 1), OUTSIDE);
    }

    private static void pay() {
        BirthStreet x = street("h1,b1");
        due(14, "none", x.pay(), 0);
        x.debt(9, 99);
        x.debt(4, 1);
        due(14, "nobody's too", x.pay(), 13);
        due(14, "again", x.pay(), 0);
        due(14, "debts", x.count(5), 0);
        due(14, "owed", x.about(0, 4), 0);
        due(14, "a new one", x.debt(2, 1), 1);
        due(14, "the new one alone", x.pay(), 2);
        due(14, "no street", new BirthStreet().pay(), 0);
    }

    private static void cheap() {
        BirthStreet x = street("h3,t9,c5,m4,h3,c2");
        due(15, "all numbers", x.count(3), 21);
        int[][] want = {
            {21, 0, 0}, {20, 1, 0b00001}, {18, 1, 0b00001}, {17, 1, 0b00010}, {12, 1, 0b00010},
            {11, 2, 0b00011}, {9, 2, 0b00011}, {8, 2, 0b10010}, {7, 2, 0b10010}, {6, 3, 0b10011},
            {4, 3, 0b10011}, {3, NONE, NONE}, {0, NONE, NONE}, {400, 0, 0}};
        for (int[] row : want) {
            due(15, row[0] + " in how few", x.cheap(row[0], 0), row[1]);
            due(15, row[0] + " in which", x.cheap(row[0], 1), row[2]);
        }
        due(15, "nothing is born by it", x.count(2), 0);
        BirthStreet like = street("h2,h2,c1,c1");
        due(15, "the least of like ones", like.cheap(4, 1), 0b0001);
        due(15, "a cradle's loan counts", like.cheap(3, 1), 0b0010);
        due(15, "two", like.cheap(1, 1), 0b0011);
        due(15, "the cradle's own loan too", like.cheap(0, 1), 0b0111);
        due(15, "few go ahead of least", street("h3,h3,h5").cheap(6, 1), 0b100);
        due(15, "by no maid", street("h1,m9").cheap(8, 0), NONE);
        due(15, "by no maid at the beginning", street("m9,h1").cheap(8, 0), NONE);
        due(15, "by no burnt one", street("h1,b9").cheap(8, 0), NONE);
        due(15, "just so much", street("h1,m9").cheap(9, 1), 0b01);
        unchanged(15, "much -1", x, y -> y.cheap(-1, 0), OUTSIDE);
        unchanged(15, "much 401", x, y -> y.cheap(401, 0), OUTSIDE);
        unchanged(15, "what -1", x, y -> y.cheap(0, -1), OUTSIDE);
        unchanged(15, "what 2", x, y -> y.cheap(0, 2), OUTSIDE);
        unchanged(15, "no street", new BirthStreet(), y -> y.cheap(0, 0), STATE);
        unchanged(15, "outside comes first", new BirthStreet(), y -> y.cheap(0, 2), OUTSIDE);
    }

    private static void when() {
        BirthStreet x = street("h5,t5,m0,b7");
        due(16, "at once", x.when(0, 5), 0);
        due(16, "a day", x.when(0, 6), 1);
        due(16, "gone by", x.when(0, 4), NONE);
        due(16, "99 days", x.when(0, 104), 99);
        due(16, "100 days", x.when(0, 105), NONE);
        due(16, "twins at once", x.when(1, 2), 0);
        due(16, "twins' first of two", x.when(1, 3), 1);
        due(16, "twins' last", x.when(1, 52), 99);
        due(16, "twins' too far", x.when(1, 53), NONE);
        due(16, "a maid", x.when(2, 99), 99);
        due(16, "burnt", x.when(3, 7), 0);
        due(16, "burnt never", x.when(3, 8), NONE);
        due(16, "below 0", x.when(0, -1), NONE);
        due(16, "highest", x.when(0, HIGHEST), NONE);
        pass(x, 30);
        due(16, "behind day 30", x.when(0, 134), 99);
        unchanged(16, "telling it", x, y -> y.when(0, 100), 65);
        unchanged(16, "house 4", x, y -> y.when(4, 0), UNKNOWN);
        unchanged(16, "house -1", x, y -> y.when(-1, 0), UNKNOWN);
    }

    private static void hear() {
        BirthStreet x = street("h5,t5");
        due(17, "first", x.hear(0, 0), 1);
        due(17, "the same again", x.hear(0, 0), 2);
        due(17, "greatest number", x.hear(1, 99), 3);
        x.hear(1, 1);
        x.hear(1, 1);
        due(17, "sixth", x.hear(1, 1), 6);
        unchanged(17, "seventh", x, y -> y.hear(1, 1), FULL);
        unchanged(17, "unknown comes first", x, y -> y.hear(2, 100), UNKNOWN);
        unchanged(17, "outside comes ahead of full", x, y -> y.hear(1, 100), OUTSIDE);
        unchanged(17, "number -1", x, y -> y.hear(1, -1), OUTSIDE);
        unchanged(17, "house -1", x, y -> y.hear(-1, 0), UNKNOWN);
        unchanged(17, "no street", new BirthStreet(), y -> y.hear(0, 0), UNKNOWN);
    }

    private static void forget() {
        BirthStreet x = street("h5,t5");
        x.hear(0, 9);
        x.hear(0, 8);
        due(18, "none fits", x.days(0), 0);
        due(18, "two", x.forget(), 2);
        due(18, "again", x.forget(), 0);
        due(18, "heard", x.count(7), 0);
        due(18, "all fit", x.days(0), 1);
        due(18, "a new one", x.hear(0, 5), 1);
        due(18, "fits alone", x.days(0), 1);
    }

    private static void days() {
        BirthStreet x = street("h3,t6,b5");
        pass(x, 3);
        x.birth(0);
        pass(x, 4);
        due(19, "all", x.days(0), 8);
        due(19, "least of all", x.days(1), 0);
        x.hear(0, 3);
        due(19, "3 on the days 0 and 6", x.days(0), 2);
        due(19, "least", x.days(1), 0);
        x.hear(1, 6);
        due(19, "both", x.days(0), 1);
        due(19, "the day", x.days(1), 6);
        x.hear(2, 5);
        due(19, "the burnt one tells nothing", x.days(1), 6);
        x.hear(0, 4);
        due(19, "at odds", x.days(0), 0);
        due(19, "none", x.days(1), NONE);
        x.forget();
        x.hear(0, 5);
        due(19, "day 2 or the next", x.days(0), 1);
        x.day();
        due(19, "now counts", x.days(0), 2);
        x.birth(0);
        due(19, "now is behind the births", x.days(0), 1);
        unchanged(19, "what -1", x, y -> y.days(-1), OUTSIDE);
        unchanged(19, "what 2", x, y -> y.days(2), OUTSIDE);
        unchanged(19, "no street", new BirthStreet(), y -> y.days(0), STATE);
        unchanged(19, "outside comes first", new BirthStreet(), y -> y.days(2), OUTSIDE);
    }

    private static void ask() {
        due(20, "of like ones the least", street("h5,t5").ask(), 0);
        BirthStreet x = street("b3,t6,h1");
        pass(x, 5);
        due(20, "the one whose number is unlike each day", x.ask(), 2);
        x.hear(2, 2);
        due(20, "one day is left", x.ask(), 0);
        x.hear(2, 3);
        due(20, "none is left", x.ask(), NONE);
        BirthStreet y = street("b1,t0,t1");
        pass(y, 1);
        due(20, "twins of 0 and 1", y.ask(), 2);
        // Only where the worst is weighed, not how many answers there are, house 0 goes ahead.
        BirthStreet z = street("h0,h0");
        pass(z, 2);
        z.birth(0);
        pass(z, 3);
        // Days 0 to 5: house 0 had 0 1 0 1 2 3, house 1 had 0 1 2 3 4 5.
        due(20, "at worst two against one", z.ask(), 1);
        z.birth(1);
        pass(z, 1);
        z.birth(1);
        pass(z, 1);
        z.birth(1);
        // Days 0 to 7: house 0 had 0 1 0 1 2 3 4 5, house 1 had 0 1 2 3 4 0 0 0.
        due(20, "at worst two against four", z.ask(), 0);
        z.hear(1, 0);
        // Of the days 0, 5, 6 and 7 house 0 tells each by itself.
        due(20, "of those heard alone", z.ask(), 0);
        due(20, "asking hears nothing", z.count(7), 1);
        BirthStreet w = street("h9,t9");
        pass(w, 30);
        due(20, "all days", w.ask(), 0);
        BirthStreet v = street("h0,h9");
        pass(v, 30);
        v.hear(0, 30);
        due(20, "the greatest number, 39", v.ask(), 0);
        unchanged(20, "no street", new BirthStreet(), q -> q.ask(), STATE);
    }

    private static void years() {
        BirthStreet x = street("h4,m2,c3,b1");
        // Seeds from 0: 12345 (draw 0 of 4) and 1406932606 (21468, so 0), then 654583775 (9988, so 0).
        due(21, "the first seed", x.years(1, 0, 2), 12345);
        due(21, "the second", x.years(2, 0, 2), 1406932606);
        due(21, "the third", x.years(3, 0, 2), 654583775);
        // Day 1: ages 0 2 3 1: 0, 3, 1, 2: 0 + 3 + 2 + 1.
        due(21, "a walk", x.years(1, 0, 0), 6);
        due(21, "the numbers in its end", x.years(1, 0, 1), 1 + 3 + 4 + 1);
        // Seed 12345 gives 1406932606, and so 21468 of 4.
        due(21, "two walks", x.years(2, 0, 0), 6 + 6);
        due(21, "the numbers in their end", x.years(2, 0, 1), 1 + 4 + 5 + 1);
        BirthStreet maids = street("m0,m0,b0");
        due(21, "maids bear none", maids.years(60, 1, 1), 120);
        due(21, "a draw is made all the same", maids.years(2, 0, 2), 1406932606);
        due(21, "the greatest seed", street("h0,h0").years(1, HIGHEST, 2), 1043980748);
        due(21, "sixty", x.years(60, 7, 2) >= 0 ? 1 : 0, 1);
        unchanged(21, "nothing becomes of it", x, y -> y.years(3, 0, 2), 654583775);
        unchanged(21, "days 0", x, y -> y.years(0, 0, 0), OUTSIDE);
        unchanged(21, "days 61", x, y -> y.years(61, 0, 0), OUTSIDE);
        unchanged(21, "seed -1", x, y -> y.years(1, -1, 0), OUTSIDE);
        unchanged(21, "what -1", x, y -> y.years(1, 0, -1), OUTSIDE);
        unchanged(21, "what 3", x, y -> y.years(1, 0, 3), OUTSIDE);
        unchanged(21, "no street", new BirthStreet(), y -> y.years(1, 0, 0), STATE);
        unchanged(21, "outside comes first", new BirthStreet(), y -> y.years(0, 0, 0), OUTSIDE);
    }

    private static void image() {
        BirthStreet x = street("h4,c3");
        unchanged(22, "on day 0", x, y -> y.image(), 0);
        x.day();
        unchanged(22, "on day 1", x, y -> y.image(), 1);
        x.day();
        x.image();
        x.day();
        due(22, "the latest is kept", x.restore(), 2);
        unchanged(22, "no street", new BirthStreet(), y -> y.image(), STATE);
        unchanged(22, "a page alone", page("h4,c3"), y -> y.image(), STATE);
    }

    private static void restore() {
        BirthStreet x = street("h4,c3,t9");
        unchanged(23, "none was kept", x, y -> y.restore(), STATE);
        x.day();
        x.birth(0);
        x.day();
        x.birth(2);
        x.debt(3, 1);
        x.debt(5, 0);
        x.hear(0, 1);
        x.image();
        long then = x.digest();
        x.pay();
        x.forget();
        x.debt(9, 9);
        x.hear(2, 9);
        x.hear(2, 8);
        x.birth(0);
        x.day();
        x.birth(1);
        x.day();
        due(23, "the day", x.restore(), 2);
        due(23, "all is as it was", x.digest(), then);
        x.birth(1);
        x.day();
        due(23, "a second time", x.restore(), 2);
        due(23, "all is as it was again", x.digest(), then);
        type(x, "q");
        due(23, "a third time", x.restore(), 2);
        due(23, "the page stays", x.blank(), 1);
        type(x, "h4,c3");
        x.blank();
        due(23, "a blank leaves it", x.restore(), 2);
        type(x, "h4,");
        x.street();
        due(23, "a page that was none leaves it", x.restore(), 2);
        type(x, "c3,t9");
        x.street();
        unchanged(23, "a street of the same text was read", x, y -> y.restore(), STATE);
        x.image();
        due(23, "one of the new street", x.restore(), 0);
        due(23, "how often a street was read stays", x.count(9), 2);
        BirthStreet y = street("h0,h5");
        y.image();
        pass(y, 30);
        due(23, "back by 30 days", y.restore(), 0);
        y.birth(1);
        y.day();
        due(23, "the days are gone through anew", y.then(1, 0), 0);
        due(23, "behind them", y.then(1, 1), 1);
        due(23, "none later", y.then(1, 2), UNKNOWN);
        unchanged(23, "no street", new BirthStreet(), z -> z.restore(), STATE);
    }

    private static void count() {
        BirthStreet x = street("h4,c3,t9,b3,m3");
        x.birth(0);
        x.day();
        x.debt(5, 1);
        x.debt(2, 77);
        x.debt(1, 3);
        x.hear(0, 0);
        type(x, "abc");
        int[] want = {5, 1, 1, 1 + 1 + 5 + 3 + 4, 4, 3, 6, 1, 3, 1};
        for (int what = 0; what <= 9; what++) {
            due(24, "count " + what, x.count(what), want[what]);
        }
        BirthStreet y = street("h1,h1,h1");
        due(24, "all alike", y.count(4), 1);
        y.birth(1);
        due(24, "two kinds", y.count(4), 2);
        y.birth(2);
        due(24, "like ones side by side", y.count(4), 2);
        unchanged(24, "what -1", x, z -> z.count(-1), OUTSIDE);
        unchanged(24, "what 10", x, z -> z.count(10), OUTSIDE);
        unchanged(24, "lowest", x, z -> z.count(LOWEST), OUTSIDE);
    }

    private static void digest() {
        due(25, "new", new BirthStreet().digest(), digestOf(0, 0, 0, 0, 0, 0, 0, 0, 0, 0));
        due(25, "a page", page("h~").digest(), digestOf('h', '~', 0, 0, 0, 0, 0, 0, 0, 0, 2, 0));
        BirthStreet x = street("h4,c9");
        x.day();
        x.birth(0);
        x.debt(7, 0);
        x.hear(1, 9);
        type(x, "z");
        due(25, "a street", x.digest(), digestOf(
            0, 0, 0, 1, 7, 0, 4, 0,
            3, 0, 0, 1, 0, 1, 9, 0,
            1, 0, 0, 1, 0, 0,
            'z',
            2, 1, 1, 0, 1, 1, 7, 1, 1, 1));
        due(25, "it changes nothing", x.digest(), x.digest());
        // By one birth, in house 1, all numbers are 9 together.
        due(25, "cheap for 9", street("m9,h1").digest(), digestOf(
            2, 9, 9, 0, 0, 1, 9,
            0, 1, 1, 0, 0, 0, 1,
            2, 1, 2, 1, 0, 0,
            2, 0, 0, 10, 2, 0, 0, 0, 0, 1));
    }
}
