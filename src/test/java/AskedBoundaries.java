/** The sentences about what is asked of PERSONS, NUMBERS, FARES, ways to say and to count, years: promises 10 to 36. */
final class AskedBoundaries extends Boundaries {
    static void all() {
        nothingStays();
        person();
        number();
        fare();
        would();
        cost();
        saying();
        leaves();
        out();
        round();
        buy();
        meant();
        look();
        dice();
        lets();
        tax();
        dearest();
        landlord();
        common();
        affords();
        worth();
        run();
        cheapest();
        primes();
        poorest();
        sayable();
        year();
        draw();
        span();
    }

    private static int[] of(int... a) {
        return a;
    }

    private static void nothingStays() {
        sentence(14, "Asked, nothing stays changed");
        Asked[] calls = {
            (x, a) -> x.told(6), (x, a) -> x.person(1, 2), (x, a) -> x.number(7, 2), (x, a) -> x.fare(7, 1),
            (x, a) -> x.would(7, 40, 1, 5, 999, 900), (x, a) -> x.cost(7), (x, a) -> x.saying(7, 1), (x, a) -> x.leaves(7),
            (x, a) -> x.out(7), (x, a) -> x.round(1, 60, 2), (x, a) -> x.buy(9999, 1), (x, a) -> x.meant(10, 3, 1),
            (x, a) -> x.look(10, 3, 0), (x, a) -> x.dice(60, 0), (x, a) -> x.lets(20, 1), (x, a) -> x.tax(0, 30),
            (x, a) -> x.dearest(0, 60, 0), (x, a) -> x.landlord(0), (x, a) -> x.common(1), (x, a) -> x.affords(0, 4, 0),
            (x, a) -> x.worth(1), (x, a) -> x.run(1, 1), (x, a) -> x.cheapest(7, 0), (x, a) -> x.primes(0),
            (x, a) -> x.poorest(0), (x, a) -> x.sayable(99, 0), (x, a) -> x.year(7, 96, 1), (x, a) -> x.span(7, 20, 96, 0),
            (x, a) -> x.fault(), (x, a) -> x.status(0), (x, a) -> x.count(1)};
        for (int i = 0; i < calls.length; i++) {
            WidowSeven x = livedIn();
            put(x, "day;");
            String before = seen(x);
            int first = calls[i].ask(x, of());
            same(before, seen(x));
            int at = i;
            due("call " + i + " asked again", first, () -> calls[at].ask(x, of()));
            due("what was done can be undone", 1, x::undo);
            due("the IMAGE is there", 0, x::restore);
            due("the TAPE is there", 1, () -> x.work(4));
        }
    }

    // ---- promises 10 to 13 ----

    private static void person() {
        WidowSeven x = in("person 0;person 999;person 7;own 0 1 40;own 60 1 40;own 30 1 0;own 9 2 0;");
        sentence(10, "0 coins, 1 how many NUMBERS are his, 2 their RENTS together, 3 the least of them (NONE), 4 the greatest (NONE)");
        int[][] want = {{0, 0, 0, -1, -1}, {999, 3, 80, 0, 60}, {7, 1, 0, 9, 9}};
        for (int p = 0; p < 3; p++) {
            for (int what = 0; what < 5; what++) {
                int q = p;
                int w = what;
                due("person " + q + " " + w, want[q][w], () -> x.person(q, w));
            }
        }
        WidowSeven ends = in("person 0;person 0;person 0;own 60 0 1;own 0 1 2;");
        due("60 alone is the least, too", 60, () -> ends.person(0, 3));
        due(60, () -> ends.person(0, 4));
        due("0 alone is the greatest, too", 0, () -> ends.person(1, 4));
        due(0, () -> ends.person(1, 3));
        due("there is no 61", -1, () -> ends.person(2, 4));
        due(-1, () -> in("person 5;").person(0, 4));
        due(-1, () -> in("person 5;").person(0, 3));
        due(0, () -> in("person 5;").person(0, 1));
        WidowSeven used = in("person 9;own 5 0 3;");
        work(used, "use 0 0 0;");
        due("RENTS of NUMBERS to 60 alone", 3, () -> used.person(0, 2));
        WidowSeven all = allButFree("");
        due(61, () -> all.person(0, 1));
        due(61 * 9, () -> all.person(0, 2));

        sentence(10, "NoSuchElementException: no such PERSON, NUMBER (0 to 60; so below, ahead of others)");
        ranges("person", (y, a) -> y.person(a[0], a[1]), 1, of(0, 0), of(1, 4));
        due(NO_SUCH, () -> new WidowSeven().person(0, 0));
        WidowSeven six = in("person 3;".repeat(6));
        due(3, () -> six.person(5, 0));
        due(NO_SUCH, () -> six.person(6, 0));
        due("no such PERSON comes ahead of another what", NO_SUCH, () -> six.person(6, 5));
        land(six, "person 3;");
        due("those of the LAND ahead are gone", NO_SUCH, () -> six.person(1, 0));
    }

    private static void number() {
        WidowSeven x = in("person 0;own 1 0 40;own 60 0 0;");
        work(x, "use 0 60 0;day;use 0 60 2;use 0 60 1;use 0 0 0;");
        sentence(11, "0 whose it is (NONE), 1 RENT, 2 how often it was used this DAY, 3 parts");
        int[][] want = {{0, -1, 0, 1, 0}, {1, 0, 40, 0, 1}, {60, 0, 0, 2, 12}, {59, -1, 0, 0, 2}};
        for (int[] row : want) {
            for (int what = 0; what < 4; what++) {
                int w = what;
                due("number " + row[0] + " " + w, row[w + 1], () -> x.number(row[0], w));
            }
        }

        sentence(11, "4 the least prime it can be divided by (NONE: 0 and 1 have none)");
        due(-1, () -> x.number(0, 4));
        due(-1, () -> x.number(1, 4));
        due(2, () -> x.number(2, 4));
        due(3, () -> x.number(3, 4));
        due(7, () -> x.number(49, 4));
        due(59, () -> x.number(59, 4));
        due(2, () -> x.number(60, 4));
        ranges("number", (y, a) -> y.number(a[0], a[1]), 1, of(0, 0), of(60, 4));
    }

    private static void fare() {
        sentence(12, "FARE of a NUMBER by a WAY (0 to 2) now");
        WidowSeven x = in("person 9;person 9;own 0 0 40;own 60 1 7;");
        due(40, () -> x.fare(0, 0));
        due(7, () -> x.fare(60, 0));
        due(3, () -> x.fare(60, 1));
        due(2, () -> x.fare(60, 2));
        due(0, () -> x.fare(59, 0));
        work(x, "sell 60 0 1;rent 60 9;");
        due("by the RENT as it is now", 3, () -> x.fare(60, 2));
        law(x, "day*20+used*5+owner");
        work(x, "use 0 60 0;use 1 0 0;use 1 0 0;");
        due(5, () -> x.fare(60, 0));
        due(10, () -> x.fare(0, 0));
        work(x, "day;use 0 0 0;");
        due(25, () -> x.fare(0, 2));
        x.undo();
        due(10, () -> x.fare(0, 2));
        ranges("fare", (y, a) -> y.fare(a[0], a[1]), 1, of(0, 0), of(60, 2));
    }

    private static void would() {
        sentence(13, "FARE by the LAW for such number (0 to 60), rent (0 to 40), way (0 to 2), owner (0 to 5), used (0 to 999), day (0 to 900); parts by the number");
        WidowSeven x = new WidowSeven();
        due("without a LAW", 13, () -> x.would(0, 40, 2, 5, 999, 900));
        due(0, () -> x.would(60, 0, 0, 0, 0, 0));
        String[] laws = {"number", "rent", "way", "owner", "used-900", "day-810", "parts"};
        int[] highest = {60, 40, 2, 5, 99, 90, 12};
        for (int i = 0; i < laws.length; i++) {
            law(x, laws[i]);
            int at = i;
            due(laws[i], highest[at], () -> x.would(60, 40, 2, 5, 999, 900));
            due(laws[i], 0, () -> x.would(0, 0, 0, 0, 0, 0));
        }
        law(x, "parts");
        due(1, () -> x.would(1, 0, 0, 0, 0, 0));
        due(2, () -> x.would(59, 0, 0, 0, 0, 0));
        law(x, "number*2");
        due("99 at most", 99, () -> x.would(60, 0, 0, 0, 0, 0));
        law(x, "number-30");
        due("0 at least", 0, () -> x.would(29, 0, 0, 0, 0, 0));
        // whose NUMBER it is now, and which PERSONS there are, is not asked
        due(30, () -> x.would(60, 0, 0, 5, 0, 0));
        ranges("would", (y, a) -> y.would(a[0], a[1], a[2], a[3], a[4], a[5]), 0, of(0, 0, 0, 0, 0, 0), of(60, 40, 2, 5, 999, 900));
    }

    // ---- promises 14 to 18 ----

    private static void cost() {
        sentence(14, "the least for which it is said: its own FARE said; or, of two NUMBERS (0 to 60) of which it is the sum, the difference or the product, the COST of both together, and the duty");
        WidowSeven x = in("person 0;own 7 0 2;own 8 0 4;own 9 0 6;duty 2;");
        due("its own", 1, () -> x.cost(7));
        due("alike", 2, () -> x.cost(8));
        due("of two free ones", 2, () -> x.cost(9));
        due(0, () -> x.cost(0));
        due(0, () -> x.cost(60));
        WidowSeven free = in("person 0;own 7 0 40;own 0 0 40;own 60 0 40;duty 0;");
        due("a duty of 0", 0, () -> free.cost(7));
        due("the least NUMBER", 0, () -> free.cost(0));
        due("the greatest NUMBER", 0, () -> free.cost(60));
        WidowSeven dear = in("person 0;own 7 0 40;own 8 0 39;duty 20;");
        law(dear, "rent");
        due("a duty of 20", 20, () -> dear.cost(7));
        due(20, () -> dear.cost(8));
        // 9 times 8 less 12 would be 60 by two duties, but no NUMBER is 72
        WidowSeven beyond = allButFree("duty 1;", 9, 8, 12);
        law(beyond, "99");
        due("12 and 12 times (12 less 8)", 3, () -> beyond.cost(60));
        // 50 and 20 less 12 would be 58, but no NUMBER is 70; 50 less 12, and 20
        WidowSeven sums = allButFree("duty 1;", 50, 20, 12);
        law(sums, "99");
        due(2, () -> sums.cost(58));
        due(1, () -> sums.cost(38));
        WidowSeven none = allButFree("duty 0;");
        law(none, "99");
        due("none is cheaper", 99, () -> none.cost(0));
        due(99, () -> none.cost(60));
        ranges("cost", (y, a) -> y.cost(a[0]), 1, of(0), of(60));
    }

    private static void says(WidowSeven x, int number, int... want) {
        for (int i = 0; i < 3; i++) {
            int what = i;
            due("saying of " + number + " " + i, want[i], () -> x.saying(number, what));
        }
        due("leaves of " + number, want[3], () -> x.leaves(number));
    }

    private static void saying() {
        sentence(15, "SAYING: of all trees so cheap those of fewest leaves");
        WidowSeven few = allButFree("duty 0;", 50, 43, 36);
        law(few, "99");
        due("a sum of 0 and 7 would be as cheap", 0, () -> few.cost(7));
        says(few, 7, 2, 43, 36, 2);
        says(few, 29, 2, 36, 7, 3);
        says(few, 49, 3, 7, 7, 4);

        sentence(15, "itself ahead of a sum, this ahead of a difference, this ahead of a product");
        WidowSeven x = in("person 0;own 7 0 4;own 9 0 6;duty 2;");
        says(x, 7, 0, -1, -1, 1);
        says(x, 9, 1, 1, 8, 2);
        WidowSeven sum = allButFree("duty 1;", 3, 4, 10, 17, 2, 20, 5);
        law(sum, "99");
        says(sum, 7, 1, 2, 5, 2);
        says(sum, 15, 1, 5, 10, 2);
        WidowSeven alone = allButFree("duty 1;", 3, 4, 10, 17);
        law(alone, "99");
        says(alone, 7, 1, 3, 4, 2);
        WidowSeven difference = allButFree("duty 1;", 20, 5, 3);
        law(difference, "99");
        says(difference, 15, 2, 20, 5, 2);
        WidowSeven two = allButFree("duty 1;", 2);
        law(two, "99");
        says(two, 4, 1, 2, 2, 2);

        sentence(15, "then the least first NUMBER (of a sum, a product no greater than the second one), then the least second one");
        WidowSeven sums = allButFree("duty 1;", 1, 2, 3, 4);
        law(sums, "99");
        says(sums, 5, 1, 1, 4, 2);
        says(sums, 6, 1, 2, 4, 2);
        says(sums, 8, 1, 4, 4, 2);
        WidowSeven products = allButFree("duty 1;", 3, 4, 6, 8);
        law(products, "99");
        says(products, 24, 3, 3, 8, 2);
        says(products, 36, 3, 6, 6, 2);
        WidowSeven differences = allButFree("duty 1;", 60, 50, 40, 30);
        law(differences, "99");
        says(differences, 10, 2, 40, 30, 2);
        says(differences, 0, 2, 30, 30, 2);
        says(differences, 20, 2, 50, 30, 2);
        WidowSeven last = allButFree("duty 1;", 60);
        law(last, "99");
        says(last, 0, 2, 60, 60, 2);

        sentence(15, "0 how (0 itself, 1 a sum, 2 a difference, 3 a product), 1 the first NUMBER, 2 the second one (NONE both: itself)");
        says(last, 60, 0, -1, -1, 1);
        WidowSeven half = allButFree("duty 1;", 30);
        law(half, "99");
        says(half, 60, 1, 30, 30, 2);
        says(half, 0, 2, 30, 30, 2);
        says(half, 30, 0, -1, -1, 1);
        ranges("saying", (y, a) -> y.saying(a[0], a[1]), 1, of(0, 0), of(60, 2));
    }

    private static void leaves() {
        sentence(16, "How many leaves there are in what is said of a NUMBER by its SAYING (1: itself)");
        WidowSeven x = allButFree("duty 0;", 1);
        law(x, "99");
        due(1, () -> x.leaves(1));
        due(2, () -> x.leaves(0));
        due(2, () -> x.leaves(2));
        due("3 times 3, less 1", 6, () -> x.leaves(8));
        due("two of 2 times 3", 7, () -> x.leaves(12));
        WidowSeven dear = allButFree("duty 20;");
        due(1, () -> dear.leaves(0));
        due(1, () -> dear.leaves(60));
        ranges("leaves", (y, a) -> y.leaves(a[0]), 1, of(0), of(60));
    }

    private static void out() {
        sentence(17, "NUMBERS of RENT 0 are there by 0 STEPS");
        WidowSeven x = in("person 0;own 0 0 0;own 60 0 0;own 7 0 1;");
        law(x, "99");
        due("somebody's, for no RENT, however dear", 0, () -> x.out(0));
        due(0, () -> x.out(60));
        due("nobody's", 0, () -> x.out(59));
        due("a RENT of 1, free by the LAW or not", 1, () -> x.out(7));
        law(x, "0");
        due(1, () -> x.out(7));

        sentence(17, "others by the fewest: of a sum, a difference, a product of two NUMBERS (0 to 60) STEPS of both and 1 together; NONE");
        WidowSeven none = allButFree("");
        for (int n : of(0, 1, 7, 60)) {
            due("out of none", -1, () -> none.out(n));
        }
        WidowSeven zero = allButFree("", 0);
        due(0, () -> zero.out(0));
        due("0 alone makes 0 alone", -1, () -> zero.out(1));
        due(-1, () -> zero.out(60));
        WidowSeven last = allButFree("", 60);
        due(1, () -> last.out(0));
        due(-1, () -> last.out(59));
        WidowSeven two = allButFree("", 2);
        due(1, () -> two.out(0));
        due(1, () -> two.out(4));
        due(2, () -> two.out(6));
        due(2, () -> two.out(8));
        due("both fours are made", 3, () -> two.out(16));
        due("an odd one", -1, () -> two.out(7));
        // 9 times 8 less 12 would be 60 by 2 STEPS, but no NUMBER is 72
        due(3, () -> allButFree("", 9, 8, 12).out(60));
        ranges("out", (y, a) -> y.out(a[0]), 1, of(0), of(60));
    }

    private static void goes(WidowSeven x, int from, int to, int... want) {
        for (int i = 0; i < 3; i++) {
            int what = i;
            due(from + " to " + to + " " + i, want[i], () -> x.round(from, to, what));
        }
    }

    private static void round() {
        sentence(18, "from NUMBER to NUMBER (0 to 60) by 1, 2 or 3 up or down");
        WidowSeven x = new WidowSeven();
        goes(x, 0, 1, 0, 1, 1);
        goes(x, 0, 3, 0, 1, 3);
        goes(x, 0, 4, 0, 2, 1);
        goes(x, 60, 59, 0, 1, 59);
        goes(x, 60, 57, 0, 1, 57);
        goes(x, 60, 56, 0, 2, 57);
        goes(x, 0, 60, 0, 20, 3);
        goes(x, 60, 0, 0, 20, 57);
        goes(x, 1, 60, 0, 20, 3);

        sentence(18, "each that is come to costs its FARE passed, b its FARE said: the least");
        WidowSeven y = in("person 0;own 1 0 9;own 2 0 6;own 3 0 9;own 4 0 10;own 0 0 40;");
        goes(y, 0, 4, 2 + 5, 2, 2);
        goes(y, 4, 0, 2 + 20, 2, 2);
        goes(y, 3, 4, 5, 1, 4);
        WidowSeven wall = in("person 0;own 10 0 40;own 11 0 40;own 12 0 39;own 13 0 0;");
        goes(wall, 9, 13, 13, 2, 10);
        goes(wall, 8, 14, 13, 2, 11);
        law(wall, "rent");
        goes(wall, 9, 13, 39, 2, 12);
        // two in a row are gone over, three are not
        WidowSeven two = in("person 0;own 10 0 40;own 11 0 40;");
        goes(two, 8, 13, 0, 3, 9);

        sentence(18, "of ways as cheap the fewest steps; of these the first NUMBER that is come to, the least");
        WidowSeven z = in("person 0;own 10 0 40;");
        goes(z, 9, 13, 0, 2, 11);
        goes(z, 11, 7, 0, 2, 8);
        goes(z, 7, 13, 0, 3, 8);
        goes(z, 30, 35, 0, 2, 32);
        goes(z, 35, 30, 0, 2, 32);

        sentence(18, "0 what it costs (a to itself: 0), 1 how many steps, 2 the first NUMBER that is come to (NONE: no step)");
        goes(z, 10, 10, 0, 0, -1);
        goes(z, 0, 0, 0, 0, -1);
        goes(z, 60, 60, 0, 0, -1);
        ranges("round", (w, a) -> w.round(a[0], a[1], a[2]), 2, of(0, 0, 0), of(60, 60, 2));
    }

    // ---- promises 19 to 24 ----

    private static void bought(WidowSeven x, int coins, int saved, int set) {
        due("saved by " + coins, saved, () -> x.buy(coins, 0));
        due("bought by " + coins, set, () -> x.buy(coins, 1));
    }

    private static void buy() {
        sentence(19, "of all sets of NUMBERS in the BOOK that are somebody's, whose PRICES (10 times the RENT, and 1) together are no more than c");
        WidowSeven x = in("person 0;own 7 0 20;own 3 0 8;own 60 0 0;");
        bought(x, 9999, 0, 0);
        law(x, "rent+1");
        book(x, "7 1;3 2;60 3;5 30;");
        bought(x, 0, 0, 0);
        bought(x, 1, 3, 4);
        bought(x, 80, 3, 4);
        bought(x, 81, 18, 2);
        bought(x, 82, 21, 6);
        bought(x, 200, 21, 6);
        bought(x, 201, 21, 1);
        bought(x, 202, 24, 5);
        bought(x, 281, 24, 5);
        bought(x, 282, 39, 3);
        bought(x, 283, 42, 7);
        bought(x, 9999, 42, 7);

        sentence(19, "(of each its FARE said, as often as the BOOK tells, at the FARES as they are now)");
        WidowSeven now = in("person 9;own 7 0 1;own 8 0 1;");
        law(now, "used*10+way");
        book(now, "7 1;8 30;");
        bought(now, 9999, 31, 3);
        work(now, "use 0 7 0;");
        bought(now, 9999, 41, 3);
        bought(now, 11, 30, 2);
        work(now, "again 3[use 0 7 0;];");
        bought(now, 11, 41, 1);
        work(now, "day;");
        bought(now, 9999, 31, 3);

        sentence(19, "of alike ones the least bits (lines of the BOOK from the lowest bit on)");
        WidowSeven y = in("person 0;own 1 0 4;own 2 0 4;own 3 0 0;own 4 0 1;");
        book(y, "3 30;2 5;1 5;4 9;");
        bought(y, 41, 10, 2);
        bought(y, 81, 10, 2);
        bought(y, 82, 20, 6);
        bought(y, 9999, 20, 6);
        book(y, "1 5;2 5;");
        bought(y, 41, 10, 1);
        book(y, "3 30;");
        bought(y, 9999, 0, 0);
        StringBuilder all = new StringBuilder("person 0;");
        for (int n = 0; n < 8; n++) {
            all.append("own ").append(n).append(" 0 40;");
        }
        WidowSeven z = in(all.toString());
        book(z, "0 30;1 30;2 30;3 30;4 30;5 30;6 30;7 30;");
        bought(z, 3208, 4800, 255);
        bought(z, 3207, 4200, 127);
        law(z, "999");
        bought(z, 9999, 8 * 30 * 99, 255);
        bought(z, 400, 0, 0);
        bought(z, 401, 2970, 1);

        sentence(19, "BUY by c (0 to 9,999): 0 what is saved, 1 the set (bits)");
        ranges("buy", (w, a) -> w.buy(a[0], a[1]), 0, of(0, 0), of(9999, 1));
    }

    private static void rows(WidowSeven x, int v, int k, int many, int first) {
        due("rows by " + v + " " + k, many, () -> x.meant(v, k, 0));
        due("the first by " + v + " " + k, first, () -> x.meant(v, k, 1));
    }

    private static void meant() {
        sentence(20, "rows of k NUMBERS (1 to 60), none less than the one ahead of it, whose FARES said together are v");
        WidowSeven x = new WidowSeven();
        rows(x, 0, 1, 60, 1);
        rows(x, 0, 2, 60 * 61 / 2, 101);
        rows(x, 0, 3, 60 * 61 * 62 / 6, 10101);
        rows(x, 1, 3, 0, -1);
        WidowSeven zero = in("person 0;own 0 0 10;");
        rows(zero, 5, 1, 0, -1);
        rows(zero, 5, 2, 0, -1);
        WidowSeven ends = in("person 0;own 1 0 1;own 60 0 1;");
        law(ends, "number");
        rows(ends, 60, 1, 1, 60);
        rows(ends, 60, 2, 58, 260);
        rows(ends, 61, 2, 1, 160);
        rows(ends, 2, 2, 1, 101);
        rows(ends, 180, 3, 1, 606060);
        rows(ends, 121, 3, 1, 16060);

        sentence(20, "MEANT by v (0 to 297), k (1 to 3): 0 how many rows, 1 the first (the NUMBERS as digits to the base 100, the first the highest; NONE)");
        law(ends, "99");
        rows(ends, 297, 3, 4, 10101);
        rows(ends, 198, 2, 3, 101);
        rows(ends, 99, 1, 2, 1);
        rows(ends, 297, 1, 0, -1);
        ranges("meant", (y, a) -> y.meant(a[0], a[1], a[2]), 0, of(0, 1, 0), of(297, 3, 1));
    }

    private static void looks(WidowSeven x, int v, int k, int number, int left) {
        due("look by " + v + " " + k, number, () -> x.look(v, k, 0));
        due("left by " + v + " " + k, left, () -> x.look(v, k, 1));
    }

    private static void look() {
        sentence(21, "LOOK: the NUMBER (1 to 60) by which, told whether it is in the row, fewest of these rows are left at the worst; of these the least");
        WidowSeven x = new WidowSeven();
        looks(x, 1, 1, 1, 0);
        looks(x, 297, 3, 1, 0);
        looks(x, 0, 1, 1, 59);
        looks(x, 0, 2, 1, 1830 - 60);
        looks(x, 0, 3, 1, 35990);
        // said, they cost 3, 3 and 6
        WidowSeven ends = in("person 0;own 60 0 6;own 59 0 6;own 58 0 12;");
        due("58 with one of 57 free ones, or two of 59, 60", 60, () -> ends.meant(6, 2, 0));
        looks(ends, 6, 1, 1, 1);
        looks(ends, 3, 1, 59, 1);
        looks(ends, 9, 2, 59, 1);
        looks(ends, 12, 2, 1, 1);
        WidowSeven last = in("person 0;own 60 0 2;own 50 0 2;");
        looks(last, 2, 2, 50, 2);
        // 10 and 30, two of 20, or 60 and one of 56 free ones
        looks(in("person 0;own 10 0 2;own 20 0 4;own 30 0 6;own 60 0 8;"), 4, 2, 60, 56);
        // 1 2 or 1 3: the second NUMBER tells; 10 10 20 or 10 10 30: the third one does
        looks(in("person 0;own 1 0 2;own 2 0 4;own 3 0 4;"), 3, 2, 2, 1);
        looks(in("person 0;own 10 0 6;own 20 0 8;own 30 0 8;"), 10, 3, 20, 1);
        // 10 10 or 20 30, 10 10 30 or 20 30 30: what stands twice in a row is in it once
        WidowSeven twice = in("person 0;own 10 0 6;own 20 0 4;own 30 0 8;");
        looks(twice, 6, 2, 10, 1);
        looks(twice, 10, 3, 10, 1);
        WidowSeven one = in("person 0;own 60 0 2;");
        looks(one, 1, 1, 1, 1);
        looks(one, 1, 2, 1, 58);

        sentence(21, "LOOK by v, k: 0 the NUMBER, 1 how many rows are left at the worst");
        ranges("look", (y, a) -> y.look(a[0], a[1], a[2]), 0, of(0, 1, 0), of(297, 3, 1));
    }

    private static void mean(WidowSeven x, int f, int above, int below) {
        due("above of " + f, above, () -> x.dice(f, 0));
        due("below of " + f, below, () -> x.dice(f, 1));
    }

    private static void dice() {
        sentence(22, "DICE of f (1 to 60): above (part 0), below (part 1), in least terms");
        WidowSeven x = in("person 0;own 0 0 40;own 1 0 4;own 2 0 8;own 60 0 6;");
        mean(x, 1, 2, 1);
        mean(x, 2, 3, 1);
        mean(x, 3, 2, 1);
        mean(x, 4, 3, 2);
        mean(x, 59, 6, 59);
        mean(x, 60, 3, 20);
        WidowSeven free = new WidowSeven();
        mean(free, 1, 0, 1);
        mean(free, 60, 0, 1);
        WidowSeven dear = allButFree("");
        law(dear, "99");
        mean(dear, 60, 99, 1);
        law(dear, "number");
        mean(dear, 60, 61, 2);
        ranges("dice", (y, a) -> y.dice(a[0], a[1]), 0, of(1, 0), of(60, 1));
    }

    private static void lets() {
        sentence(23, "who asks less is taken, and has that; by like RENTS each has half (cut); who asks more has 0; RESTS: neither would have more by another RENT");
        WidowSeven x = new WidowSeven();
        due("0 and 0", 1, () -> x.lets(0, 0));
        due("half of 1, cut, is 0: all four rest", 4, () -> x.lets(1, 0));
        due("and 1 2, 2 1, 2 2", 7, () -> x.lets(2, 0));
        for (int k : of(3, 4, 19, 20)) {
            due("no more by " + k, 7, () -> x.lets(k, 0));
        }

        sentence(23, "LETS by k (0 to 20): 0 how many RESTS, 1 the first (100 times the one's RENT, and the other one's), 2 what both have by it together");
        for (int k : of(0, 1, 2, 20)) {
            due("the first is 0 and 0", 0, () -> x.lets(k, 1));
            due("both have nothing", 0, () -> x.lets(k, 2));
        }
        ranges("lets", (y, a) -> y.lets(a[0], a[1]), 0, of(0, 0), of(20, 2));
    }

    private static void taxed(WidowSeven x, int n, int... want) {
        for (int p = 0; p < want.length; p++) {
            int q = p;
            due("tax of " + n + " from " + p, want[p], () -> x.tax(q, n));
        }
    }

    private static void tax() {
        sentence(24, "no more than a bound each, the greatest by which no more than n are given (all, if they are no more)");
        WidowSeven x = in("person 50;person 0;person 5;person 20;");
        taxed(x, 0, 0, 0, 0, 0);
        taxed(x, 2, 0, 0, 0, 0);
        taxed(x, 3, 1, 0, 1, 1);
        taxed(x, 5, 1, 0, 1, 1);
        taxed(x, 15, 5, 0, 5, 5);
        taxed(x, 16, 5, 0, 5, 5);
        taxed(x, 17, 6, 0, 5, 6);
        taxed(x, 44, 19, 0, 5, 19);
        taxed(x, 45, 20, 0, 5, 20);
        taxed(x, 46, 21, 0, 5, 20);
        taxed(x, 74, 49, 0, 5, 20);
        taxed(x, 75, 50, 0, 5, 20);
        taxed(x, 76, 50, 0, 5, 20);
        taxed(x, 9999, 50, 0, 5, 20);
        WidowSeven rich = in("person 999;".repeat(6));
        taxed(rich, 5, 0, 0, 0, 0, 0, 0);
        taxed(rich, 5993, 998, 998, 998, 998, 998, 998);
        taxed(rich, 5994, 999, 999, 999, 999, 999, 999);
        WidowSeven one = in("person 999;");
        taxed(one, 998, 998);
        taxed(one, 999, 999);
        taxed(in("person 0;"), 0, 0);

        sentence(24, "What a PERSON gives of n (0 to 9,999) by TAX");
        ranges("tax", (y, a) -> y.tax(a[0], a[1]), 1, of(0, 0), of(1, 9999));
    }

    // ---- promises 25 to 34 ----

    private static void dear(WidowSeven x, int a, int b, int... want) {
        for (int i = 0; i < 3; i++) {
            int what = i;
            due(a + " to " + b + " " + i, want[i], () -> x.dearest(a, b, what));
        }
    }

    private static void dearest() {
        sentence(25, "the dearest one said (what 0), of alike ones the least, its FARE (1), FARES of all together (2)");
        WidowSeven x = in("person 0;own 0 0 6;own 7 0 20;own 14 0 30;own 20 0 31;own 60 0 8;");
        dear(x, 0, 60, 14, 15, 3 + 10 + 15 + 15 + 4);
        dear(x, 15, 60, 20, 15, 19);
        dear(x, 0, 6, 0, 3, 3);
        dear(x, 1, 6, 1, 0, 0);
        dear(x, 21, 60, 60, 4, 4);
        dear(x, 0, 0, 0, 3, 3);
        dear(x, 60, 60, 60, 4, 4);
        dear(x, 59, 59, 59, 0, 0);

        sentence(25, "Of NUMBERS a to b (0 to 60, a no greater than b)");
        ranges("dearest", (y, a) -> y.dearest(a[0], a[1], a[2]), 0, of(0, 0, 0), of(60, 60, 2));
        sentence(25, "IllegalArgumentException: also a greater than b");
        due(ILLEGAL, () -> x.dearest(1, 0, 0));
        due(ILLEGAL, () -> x.dearest(60, 59, 2));
        due(ILLEGAL, () -> x.dearest(60, 0, 1));
        due(3, () -> x.status(1));
    }

    private static void landlord() {
        sentence(26, "The PERSON of most RENTS together (what 0), of alike ones the first, how much (1)");
        WidowSeven x = in("person 1;person 1;person 1;own 1 1 5;own 2 2 2;own 60 2 3;own 0 0 4;");
        due(1, () -> x.landlord(0));
        due(5, () -> x.landlord(1));
        work(x, "rent 2 3;");
        due(2, () -> x.landlord(0));
        due(6, () -> x.landlord(1));
        WidowSeven six = in("person 1;".repeat(6) + "own 5 5 1;");
        due(5, () -> six.landlord(0));
        due(1, () -> six.landlord(1));

        sentence(26, "NONE both: nobody has RENTS above 0");
        for (String land : new String[] {"", "person 1;", "person 1;own 1 0 0;"}) {
            due(land, -1, () -> in(land).landlord(0));
            due(land, -1, () -> in(land).landlord(1));
        }
        due(0, () -> in("person 1;own 1 0 1;").landlord(0));
        ranges("landlord", (y, a) -> y.landlord(a[0]), 0, of(0), of(1));
    }

    private static void common() {
        sentence(27, "How many NUMBERS (0 to 60) are said for no coin: by their own FARE (what 0), by COST (1)");
        due(61, () -> new WidowSeven().common(0));
        due(61, () -> new WidowSeven().common(1));
        WidowSeven x = in("person 0;own 0 0 2;own 60 0 2;own 7 0 1;duty 0;");
        due("a RENT of 1 is said for nothing", 59, () -> x.common(0));
        due(61, () -> x.common(1));
        WidowSeven y = in("person 0;own 0 0 2;own 60 0 2;duty 1;");
        due(59, () -> y.common(1));
        WidowSeven none = allButFree("duty 0;");
        law(none, "1");
        due(0, () -> none.common(0));
        due(0, () -> none.common(1));
        ranges("common", (z, a) -> z.common(a[0]), 0, of(0), of(1));
    }

    private static void affords() {
        sentence(28, "How often a PERSON could use a NUMBER by a WAY one behind the other now (999 at most)");
        WidowSeven x = in("person 999;person 9;person 0;own 7 1 1;own 8 0 10;own 9 0 9;own 10 0 5;own 60 1 0;");
        due("by all his coins", 999, () -> x.affords(0, 7, 0));
        due("too dear by one", 0, () -> x.affords(1, 8, 0));
        due("exactly", 1, () -> x.affords(1, 9, 0));
        due(2, () -> x.affords(1, 9, 1));
        due(3, () -> x.affords(1, 9, 2));
        due("1 is left", 4, () -> x.affords(1, 10, 1));
        due("without coins", 0, () -> x.affords(2, 7, 0));
        due("without coins, for nothing", 999, () -> x.affords(2, 60, 0));
        due("his own", 999, () -> x.affords(1, 7, 0));
        due("nobody's", 999, () -> x.affords(2, 0, 0));
        law(x, "most[used-997,0]*99");
        due("998 for nothing, then one for 99", 998, () -> x.affords(2, 8, 0));
        law(x, "most[used-998,0]*99");
        due("the 1,000th would be too dear", 999, () -> x.affords(2, 8, 0));
        law(x, "1-used");
        due("dear once, free then", 999, () -> x.affords(1, 8, 0));
        due(0, () -> x.affords(2, 8, 0));
        law(x, "used");
        work(x, "use 1 8 0;use 1 8 0;use 1 8 0;");
        due("0, 1, 2 were paid of 9", 6, () -> x.person(1, 0));
        due("3 can be paid, and not 4 more", 1, () -> x.affords(1, 8, 0));
        ranges("affords", (y, a) -> y.affords(a[0], a[1], a[2]), 2, of(0, 0, 0), of(1, 60, 2));
    }

    private static void worth() {
        sentence(29, "PRICES (10 times the RENT, and 1) of all NUMBERS of a PERSON together");
        WidowSeven x = in("person 0;person 0;person 0;own 0 0 40;own 60 0 1;own 7 1 0;");
        due(401 + 11, () -> x.worth(0));
        due("of no RENT", 1, () -> x.worth(1));
        due("of none", 0, () -> x.worth(2));
        due("there is no 61", 0, () -> in("person 9;").worth(0));
        due(61 * 91, () -> allButFree("").worth(0));
        ranges("worth", (y, a) -> y.worth(a[0]), 1, of(0), of(1));
    }

    private static void run() {
        sentence(30, "0 how many, 1 the first of it (of alike rows the least; NONE)");
        WidowSeven x = in("person 1;person 1;person 1;person 1;own 0 0 1;own 1 0 1;own 3 0 1;own 4 0 1;"
            + "own 57 1 1;own 59 1 1;own 60 1 1;own 5 2 1;own 7 2 1;");
        due(2, () -> x.run(0, 0));
        due("of alike ones the least", 0, () -> x.run(0, 1));
        due("up to the last NUMBER", 2, () -> x.run(1, 0));
        due(59, () -> x.run(1, 1));
        due("one alone", 1, () -> x.run(2, 0));
        due(5, () -> x.run(2, 1));
        due("none", 0, () -> x.run(3, 0));
        due(-1, () -> x.run(3, 1));
        work(x, "sell 0 1 0;sell 58 1 0;");
        due("0 does not stand behind 60", 4, () -> x.run(1, 0));
        due(57, () -> x.run(1, 1));
        WidowSeven all = allButFree("");
        due(61, () -> all.run(0, 0));
        due(0, () -> all.run(0, 1));
        ranges("run", (y, a) -> y.run(a[0], a[1]), 1, of(0, 0), of(1, 1));
    }

    private static void cheapest() {
        sentence(31, "The WAY by which a NUMBER's FARE is least (what 0), of alike ones the least, that FARE (1)");
        WidowSeven x = in("person 0;own 7 0 20;own 8 0 1;own 9 0 0;");
        due(2, () -> x.cheapest(7, 0));
        due(6, () -> x.cheapest(7, 1));
        due("1, 0, 0: the first of the alike", 1, () -> x.cheapest(8, 0));
        due(0, () -> x.cheapest(8, 1));
        due("0, 0, 0", 0, () -> x.cheapest(9, 0));
        due("nobody's", 0, () -> x.cheapest(60, 0));
        due(0, () -> x.cheapest(60, 1));
        law(x, "most[way,1]*50+most[1-way,0]*50");
        due("99 at most: 99, 50, 99", 1, () -> x.cheapest(7, 0));
        law(x, "100+way");
        due("all are 99", 0, () -> x.cheapest(7, 0));
        due(99, () -> x.cheapest(7, 1));
        ranges("cheapest", (y, a) -> y.cheapest(a[0], a[1]), 1, of(0, 0), of(60, 1));
    }

    private static void primes() {
        sentence(32, "How many primes (NUMBERS of two parts) are a PERSON's");
        WidowSeven x = in("person 1;person 1;own 0 0 1;own 1 0 1;own 4 0 1;own 49 0 1;own 57 0 1;own 60 0 1;own 3 1 1;");
        due("0, 1, squares and products are none", 0, () -> x.primes(0));
        work(x, "sell 2 0 0;sell 59 0 0;");
        due("2 and 59 are", 2, () -> x.primes(0));
        due(1, () -> x.primes(1));
        due("all that there are", 17, () -> allButFree("").primes(0));
        ranges("primes", (y, a) -> y.primes(a[0]), 1, of(0), of(1));
    }

    private static void poorest() {
        sentence(33, "The PERSON of fewest coins (what 0), of alike ones the first, how many (1); NONE both: there are none");
        WidowSeven none = new WidowSeven();
        due(-1, () -> none.poorest(0));
        due(-1, () -> none.poorest(1));
        WidowSeven x = in("person 7;person 3;person 3;");
        due(1, () -> x.poorest(0));
        due(3, () -> x.poorest(1));
        WidowSeven one = in("person 999;");
        due(0, () -> one.poorest(0));
        due(999, () -> one.poorest(1));
        WidowSeven six = in("person 1;".repeat(5) + "person 0;");
        due(5, () -> six.poorest(0));
        due("no coins are no NONE", 0, () -> six.poorest(1));
        ranges("poorest", (y, a) -> y.poorest(a[0]), 0, of(0), of(1));
    }

    private static void sayable() {
        sentence(34, "How many NUMBERS (0 to 60) are of a COST of c (0 to 99) or less (what 0), the greatest of them (1; NONE)");
        WidowSeven x = allButFree("", 1);
        law(x, "20");
        due(1, () -> x.sayable(0, 0));
        due(1, () -> x.sayable(0, 1));
        due("0 and 2 cost 2", 1, () -> x.sayable(1, 0));
        due(3, () -> x.sayable(2, 0));
        due(2, () -> x.sayable(2, 1));
        due(61, () -> x.sayable(20, 0));
        due(60, () -> x.sayable(20, 1));
        WidowSeven dear = allButFree("duty 20;");
        law(dear, "99");
        due(0, () -> dear.sayable(98, 0));
        due(-1, () -> dear.sayable(98, 1));
        due(61, () -> dear.sayable(99, 0));
        due(60, () -> dear.sayable(99, 1));
        law(dear, "number");
        due("0 alone, which is no NONE", 0, () -> dear.sayable(0, 1));
        due(1, () -> dear.sayable(0, 0));
        ranges("sayable", (y, a) -> y.sayable(a[0], a[1]), 0, of(0, 0), of(99, 1));
    }

    // ---- promises 35 and 36 ----

    /** DRAW, as the document tells it, on numbers of 64 bits. */
    private static final class Drawn {
        private long seed;

        Drawn(int seed) {
            this.seed = seed & 0xffffffffL;
        }

        int by(int many) {
            seed = (seed * 1103515245L + 12345L) % 4294967296L;
            return (int) (seed / 65536L % 32768L % many);
        }
    }

    /** All NUMBERS are PERSON 0's, who has 9 coins; PERSON 1 has none. */
    private static WidowSeven ownedByFirst() {
        return allButFree("person 0;");
    }

    /** A seed by which this one of two PERSONS is drawn for that use (from 1 on). */
    private static int seedByWhich(int person, int use) {
        for (int seed = 1; seed < 1000; seed++) {
            Drawn d = new Drawn(seed);
            int drawn = 0;
            for (int i = 0; i < use; i++) {
                drawn = d.by(2);
                d.by(61);
                d.by(3);
            }
            if (drawn == person) {
                return seed;
            }
        }
        return 0;
    }

    private static void year() {
        sentence(35, "then use (if it can be done); behind each 8th a day (beyond 900, too)");
        WidowSeven x = ownedByFirst();
        law(x, "day*50");
        int poor = seedByWhich(1, 9);
        int rich = seedByWhich(0, 9);
        due("on the first DAY all are free", 8, () -> x.year(poor, 8, 0));
        due("on the second one he can't pay", 8, () -> x.year(poor, 9, 0));
        due("the owner need not", 9, () -> x.year(rich, 9, 0));
        law(x, "most[0,1-day]*50");
        int first = seedByWhich(1, 1);
        due("REFUSED", 0, () -> x.year(first, 1, 0));
        due("and used by none", 0, () -> x.year(first, 1, 3));
        int eighth = seedByWhich(1, 8);
        due("the 8th is of the same DAY", x.year(eighth, 7, 0), () -> x.year(eighth, 8, 0));
        due("from the 9th on all are done", x.year(eighth, 8, 0) + 88, () -> x.year(eighth, 96, 0));
        WidowSeven last = ownedByFirst();
        for (int i = 0; i < 5; i++) {
            work(last, "again 60[day;day;day;];");
        }
        due(900, () -> last.told(1));
        law(last, "(day-900)*50");
        due(8, () -> last.year(poor, 8, 0));
        due("DAY 901", 8, () -> last.year(poor, 9, 0));
        law(last, "most[0,911-day]*99");
        // the 89th to the 96th use are on DAY 911
        int byDay = last.year(7, 88, 0);
        due("DAY 911 is come to", byDay + 8, () -> last.year(7, 96, 0));
        due("the DAY is as it was", 900, () -> last.told(1));

        sentence(35, "Without PERSONS nothing is done, there is no DRAW");
        WidowSeven nobody = new WidowSeven();
        for (int what = 0; what < 4; what++) {
            int w = what;
            due(0, () -> nobody.year(1, 1, w));
            due(0, () -> nobody.year(-1, 96, w));
        }

        sentence(35, "A YEAR of so many uses (1 to 96): 0 uses that were done, 1 coins of all then, 2 coins of the richest then, 3 NUMBERS that were used in it (by any)");
        lives("person 30;person 30;person 3;own 1 0 9;own 2 0 9;own 3 1 9;own 4 1 9;own 5 2 9;own 6 2 9;own 0 1 9;own 60 2 9;");
        lives("person 0;");
        lives("person 999;".repeat(6) + "own 0 5 40;own 60 0 40;");
        WidowSeven late = in("person 0;".repeat(6));
        for (int i = 0; i < 5; i++) {
            work(late, "again 60[day;day;day;];");
        }
        due("six without coins, on DAY 900", 0, () -> late.year(1, 96, 2));
        due(0, () -> late.year(1, 96, 1));
        due("all is nobody's", 96, () -> late.year(1, 96, 0));
        ranges("year", (y, a) -> y.year(a[0], a[1], a[2]), 0, of(Integer.MIN_VALUE, 1, 0), of(Integer.MAX_VALUE, 96, 3), 1);
    }

    /** YEARS of this land, held against ones lived here. */
    private static void lives(String text) {
        WidowSeven x = in(text);
        law(x, "rent+used+day*2-way*3");
        int persons = x.told(0);
        int[] owners = new int[61];
        int[] rents = new int[61];
        int[] coins = new int[persons];
        for (int n = 0; n <= 60; n++) {
            owners[n] = x.number(n, 0);
            rents[n] = x.number(n, 1);
        }
        for (int p = 0; p < persons; p++) {
            coins[p] = x.person(p, 0);
        }
        for (int uses : of(1, 7, 8, 9, 95, 96)) {
            for (int seed : of(0, 1, -1, Integer.MIN_VALUE, Integer.MAX_VALUE)) {
                int[] want = lived(owners, rents, coins.clone(), seed, uses);
                for (int what = 0; what < 4; what++) {
                    int w = what;
                    due("year " + seed + " " + uses + " " + w, want[w], () -> x.year(seed, uses, w));
                }
            }
        }
    }

    private static int[] lived(int[] owners, int[] rents, int[] coins, int seed, int uses) {
        Drawn d = new Drawn(seed);
        int[] used = new int[61];
        boolean[] ever = new boolean[61];
        int done = 0;
        int numbers = 0;
        for (int i = 0; i < uses; i++) {
            if (i % 8 == 0) {
                used = new int[61];
            }
            int p = d.by(coins.length);
            int n = d.by(61);
            int way = d.by(3);
            boolean free = owners[n] < 0 || owners[n] == p;
            int fare = free ? 0 : Math.max(0, Math.min(99, rents[n] + used[n] + i / 8 * 2 - way * 3));
            if (fare > coins[p]) {
                continue;
            }
            coins[p] -= fare;
            if (!free) {
                coins[owners[n]] += fare;
            }
            done++;
            used[n]++;
            numbers += ever[n] ? 0 : 1;
            ever[n] = true;
        }
        int all = 0;
        int most = 0;
        for (int c : coins) {
            all += c;
            most = Math.max(most, c);
        }
        return of(done, all, most, numbers);
    }

    private static void draw() {
        sentence(35, "the SEED (32 bits) becomes itself times 1,103,515,245, and 12,345 (it wraps); its bits 16 to 30, what is left of them");
        // PERSON 0 has all NUMBERS, PERSON 1 the coins: what the richest has left tells who used what, and how
        int[] seeds = {0, 1, 2, 3, -1, Integer.MIN_VALUE, Integer.MAX_VALUE, 1 << 16, 1 << 30, 0x7fff0000, 12345, -1103515245};
        String[] laws = {"1", "number", "way*40"};
        WidowSeven x = allButFree("person 500;");
        for (String law : laws) {
            law(x, law);
            for (int seed : seeds) {
                Drawn d = new Drawn(seed);
                int p = d.by(2);
                int n = d.by(61);
                int way = d.by(3);
                int fare = law.equals("1") ? 1 : law.equals("number") ? n : way * 40;
                due(law + " by " + seed, p == 1 ? 500 - fare : 500, () -> x.year(seed, 1, 2));
            }
        }
        // by 0 the SEED becomes 12,345, 3,554,416,254, 2,802,067,423; bits 16 to 30 are 0, 21,468 and 9,988:
        // PERSON 0 of two, NUMBER 57, WAY 1
        WidowSeven y = in("person 0;person 5;own 57 1 1;own 56 1 0;");
        due("said, it is free", 1, () -> y.year(0, 1, 0));
        law(y, "way");
        due("a LAW of 1 for it is too dear", 0, () -> y.year(0, 1, 0));
        law(y, "most[0,way-1]");
        due(1, () -> y.year(0, 1, 0));
        land(y, "person 0;person 5;own 56 1 1;own 58 1 1;");
        law(y, "99");
        due("its neighbours are not drawn", 1, () -> y.year(0, 1, 0));
    }

    private static void span() {
        sentence(36, "Of so many SEEDS (1 to 20; seed, seed and 1, ..): 0 the fewest uses that were done, 1 the most, 2 by how many none was REFUSED (without PERSONS: by all)");
        WidowSeven x = ownedByFirst();
        for (int start : of(0, -10, Integer.MIN_VALUE, Integer.MAX_VALUE, Integer.MAX_VALUE - 10)) {
            for (int many : of(1, 2, 20)) {
                for (int uses : of(1, 2, 96)) {
                    int fewest = 97;
                    int most = -1;
                    int unrefused = 0;
                    for (int i = 0; i < many; i++) {
                        Drawn d = new Drawn(start + i);
                        int done = 0;
                        for (int u = 0; u < uses; u++) {
                            // PERSON 1 has no coin, and nothing is free: by a RENT of 9 each WAY costs one at least
                            done += d.by(2) == 0 ? 1 : 0;
                            d.by(61);
                            d.by(3);
                        }
                        fewest = Math.min(fewest, done);
                        most = Math.max(most, done);
                        unrefused += done == uses ? 1 : 0;
                    }
                    int[] want = {fewest, most, unrefused};
                    for (int what = 0; what < 3; what++) {
                        int w = what;
                        due("span " + start + " " + many + " " + uses + " " + w, want[w], () -> x.span(start, many, uses, w));
                    }
                }
            }
        }
        WidowSeven nobody = new WidowSeven();
        for (int many : of(1, 20)) {
            due(0, () -> nobody.span(0, many, 96, 0));
            due(0, () -> nobody.span(0, many, 96, 1));
            due("by all", many, () -> nobody.span(0, many, 96, 2));
        }
        due("nothing stays changed", 9, () -> x.told(7));
        ranges("span", (y, a) -> y.span(a[0], a[1], a[2], a[3]), 0, of(Integer.MIN_VALUE, 1, 1, 0), of(Integer.MAX_VALUE, 20, 96, 2), 1);
    }
}
