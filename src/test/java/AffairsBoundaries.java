import java.lang.reflect.Field;

/** The sentences about what WORK does, about undo() and IMAGES, and about what is counted: promises 1, 5, 8, 9, 37 to 40. */
final class AffairsBoundaries extends Boundaries {
    private static final Teller LAND = Checks::land;
    private static final Teller WORK = Checks::work;
    private static final Teller BOOK = Checks::book;

    static void all() {
        newObject();
        order();
        begun();
        use();
        sell();
        rent();
        coins();
        day();
        undo();
        told();
        image();
        restore();
        status();
        count();
        calls();
    }

    // ---- promise 1 ----

    private static void newObject() {
        sentence(1, "A LAND without CLAUSES");
        WidowSeven x = new WidowSeven();
        WidowSeven y = new WidowSeven();
        due(0, () -> y.land(0));
        same(seen(y), seen(x));
        due(0, () -> x.told(0));
        due("the duty without", 2, () -> x.told(2));
        due(0, () -> x.told(3));
        due(0, () -> x.told(7));
        due(NO_SUCH, () -> x.person(0, 0));
        due(-1, () -> x.number(0, 0));
        due(-1, () -> x.number(60, 0));
        due(0, () -> x.fare(60, 0));
        due(0, () -> x.cost(60));
        due(-1, () -> x.poorest(0));
        due(-1, () -> x.landlord(0));
        due(-1, x::undo);
        due(-1, x::restore);
        due(-1, x::fault);
        due(0, () -> x.count(0) + x.count(1) + x.count(2));
        WidowSeven z = new WidowSeven();
        due(0, () -> z.status(0));
        due(0, () -> z.status(1));

        sentence(5, "It is DAY 0 at first, nothing was used, NUMBERS and coins are as told");
        WidowSeven lived = livedIn();
        land(lived, TWO);
        due(0, () -> lived.told(1));
        due(0, () -> lived.told(4));
        due(50, () -> lived.person(0, 0));
        due(5, () -> lived.person(1, 0));
        due(-1, () -> lived.number(20, 0));
        due(0, () -> lived.number(7, 0));
        for (int n : new int[] {0, 4, 9, 14, 60}) {
            due(0, () -> lived.number(n, 2));
        }
    }

    // ---- promise 5 ----

    private static void order() {
        sentence(5, "STEPS are done in order");
        WidowSeven x = in("person 5;person 0;own 7 1 5;");
        fine(x, WORK, "sell 7 0 5;use 0 7 0;sell 7 1 0;use 0 7 0;", 3);
        due("paid, then free, sold, then too dear", 1, () -> x.told(6));
        WidowSeven y = in("person 5;person 0;own 7 1 5;");
        fine(y, WORK, "use 0 7 0;sell 7 0 5;sell 7 0 0;use 0 7 0;", 3);
        due(1, () -> y.told(6));
        due(0, () -> y.person(0, 0));
        due("the last one of all stays", 3, () -> {
            work(y, "rent 7 1;rent 7 2;rent 7 3;");
            return y.number(7, 1);
        });

        sentence(5, "one that can't be done is REFUSED, and changes nothing");
        String[] steps = {"use 1 7 0;", "sell 7 0 1;", "sell 7 1 6;", "rent 7 20;", "rent 9 1;"};
        for (String step : steps) {
            WidowSeven z = in(TWO);
            work(z, "day;use 0 7 0;rent 0 0;");
            String before = seenOfLand(z).replace(" works 1", " works 2");
            due(step, 0, () -> work(z, step));
            due(step, 1, () -> z.told(6));
            same(before, seenOfLand(z));
        }
        WidowSeven last = lastDay();
        work(last, "use 0 9 0;rent 0 0;");
        String before = seenOfLand(last).replace(" works 6", " works 7");
        due(0, () -> work(last, "day;"));
        same(before, seenOfLand(last));
    }

    /** DAY 900, after five WORKS. */
    private static WidowSeven lastDay() {
        WidowSeven x = in("person 50;person 5;");
        for (int i = 0; i < 5; i++) {
            work(x, "again 60[day;day;day;];");
        }
        return x;
    }

    private static void begun() {
        sentence(5, "200 STEPS at most are begun by one WORK");
        WidowSeven x = new WidowSeven();
        // 1 and 3 times 60, 1 and 17: 199; 200; 201
        fine(x, WORK, "again 60[day;day;day;];again 17[day;];", 197);
        due(197, () -> x.told(1));
        fine(x, WORK, "again 60[day;day;day;];again 18[day;];", 198);
        fine(x, WORK, "again 60[day;day;day;];again 19[day;];", 198);
        due(197 + 198 + 198, () -> x.told(1));
        fine(x, WORK, "again 60[day;day;day;];again 16[day;];day;day;", 198);

        sentence(5, "(an again, too, each time it is come to; REFUSED ones, too)");
        WidowSeven y = new WidowSeven();
        // 1, then 60 times an again and a day make 121; 1 and 60 agains of nothing 61 more; 1, and 17 days
        fine(y, WORK, "again 60[again 1[day;];];again 60[again 0[day;];];again 60[day;];", 77);
        WidowSeven z = new WidowSeven();
        // 1 and 3 times 60 are 181, 1 more, and 18 of the others
        fine(z, WORK, "again 60[rent 0 1;rent 1 1;day;];again 60[rent 0 1;];", 60);
        due("two of each of 60, and 18", 138, () -> z.told(6));
        WidowSeven u = new WidowSeven();
        fine(u, WORK, "again 60[again 60[day;];];", 195);
        WidowSeven v = new WidowSeven();
        fine(v, WORK, "again 60[again 60[];again 1[];day;];again 60[day;];", 60 + 18);

        sentence(5, "what would come behind is left out");
        WidowSeven w = in("person 9;");
        // 181 are begun, and 19 more: the sale and all behind it are left out
        fine(w, WORK, "again 60[day;day;day;];again 18[day;];sell 7 0 1;rent 7 1;", 198);
        due("left out is not REFUSED", 0, () -> w.told(6));
        due(-1, () -> w.number(7, 0));
        due(9, () -> w.person(0, 0));
        fine(w, WORK, "again 60[day;day;day;];again 17[day;];sell 7 0 1;rent 7 1;", 198);
        due("the 200th is done", 0, () -> w.number(7, 0));
        due("the 201st is not", 0, () -> w.number(7, 1));
        due(198, () -> {
            w.undo();
            return w.told(1);
        });
    }

    private static void use() {
        sentence(5, "he pays its FARE to its owner (nothing, if it is his own, or nobody's;");
        WidowSeven x = in("person 50;person 5;own 7 0 20;own 9 1 0;");
        fine(x, WORK, "use 1 7 2;", 0);
        fine(x, WORK, "use 0 7 0;use 1 50 0;use 0 9 0;", 3);
        due(50, () -> x.person(0, 0));
        due(5, () -> x.person(1, 0));
        law(x, "99");
        fine(x, WORK, "use 0 7 0;use 1 50 0;", 2);
        due("his own costs nothing, however dear", 50, () -> x.person(0, 0));
        law(x, "4");
        fine(x, WORK, "use 1 7 1;", 1);
        due(54, () -> x.person(0, 0));
        due(1, () -> x.person(1, 0));
        due("all coins are there", 55, () -> x.told(7));

        sentence(5, "REFUSED, if he has not as many coins); N was used once more");
        WidowSeven y = in("person 7;person 0;own 9 1 7;own 8 1 8;");
        fine(y, WORK, "use 0 8 0;", 0);
        due(1, () -> y.told(6));
        due(0, () -> y.number(8, 2));
        fine(y, WORK, "use 0 9 0;", 1);
        due("exactly as many", 0, () -> y.person(0, 0));
        due(1, () -> y.number(9, 2));
        fine(y, WORK, "use 0 9 0;", 0);
        due("without any", 1, () -> y.number(9, 2));
        fine(y, WORK, "use 0 0 0;use 1 9 0;use 0 0 2;", 3);
        due("his own and nobody's are used, too", 2, () -> y.number(9, 2));
        due(2, () -> y.number(0, 2));
        law(y, "0");
        fine(y, WORK, "use 0 9 0;", 1);
        due("for nothing, without coins", 3, () -> y.number(9, 2));
    }

    private static void sell() {
        sentence(5, "N is P's from now on, by the RENT it had");
        WidowSeven x = in("person 50;person 5;own 7 0 20;");
        fine(x, WORK, "sell 7 1 5;sell 0 0 1;", 2);
        due(1, () -> x.number(7, 0));
        due(20, () -> x.number(7, 1));
        due(0, () -> x.number(0, 0));
        due("nobody's had none", 0, () -> x.number(0, 1));

        sentence(5, "P pays C to whose it was (to nobody, if it was nobody's; REFUSED, if it is P's, or he has not as many coins)");
        due(54, () -> x.person(0, 0));
        due("5 paid", 0, () -> x.person(1, 0));
        due("1 is gone", 54, () -> x.told(7));
        fine(x, WORK, "sell 7 1 0;", 0);
        due("it is his", 1, () -> x.told(6));
        fine(x, WORK, "sell 0 1 1;", 0);
        due("without coins", 0, () -> x.number(0, 0));
        fine(x, WORK, "sell 0 1 0;", 1);
        due("for nothing", 1, () -> x.number(0, 0));
        fine(x, WORK, "sell 7 0 55;", 0);
        due("one too few", 1, () -> x.number(7, 0));
        fine(x, WORK, "sell 7 0 54;", 1);
        due("exactly as many", 0, () -> x.person(0, 0));
        due(54, () -> x.person(1, 0));
        fine(x, WORK, "sell 60 1 55;", 0);
        due("nobody's, one too few", -1, () -> x.number(60, 0));
        fine(x, WORK, "sell 60 1 54;", 1);
        due(1, () -> x.number(60, 0));
        due(0, () -> x.told(7));
    }

    private static void rent() {
        sentence(5, "REFUSED, if N is nobody's, or it is so");
        WidowSeven x = in("person 50;own 7 0 20;own 8 0 0;own 60 0 40;");
        fine(x, WORK, "rent 9 1;rent 9 0;rent 7 20;rent 8 0;rent 60 40;", 0);
        due(5, () -> x.told(6));
        due(0, () -> x.number(9, 1));
        fine(x, WORK, "rent 7 21;rent 7 19;rent 8 40;rent 60 0;", 4);
        due(19, () -> x.number(7, 1));
        due(40, () -> x.number(8, 1));
        due(0, () -> x.number(60, 1));
    }

    private static void coins() {
        sentence(5, "All have 9,999 coins at most (what would be more is lost)");
        // no LAND has more than 5,994 coins: none of them is lost
        WidowSeven x = in("person 999;".repeat(6) + "own 7 0 1;own 1 1 0;");
        fine(x, WORK, "sell 7 1 999;sell 7 0 0;sell 7 2 999;sell 7 0 0;sell 7 3 999;sell 7 0 0;sell 7 4 999;sell 7 0 0;sell 7 5 999;", 9);
        due(5994, () -> x.person(0, 0));
        due(5994, () -> x.told(7));
        // more can only be put there from inside
        giveFirst(x, 9900);
        law(x, "99");
        fine(x, WORK, "sell 7 0 0;sell 1 0 99;sell 1 1 0;", 3);
        due(9801, () -> x.person(0, 0));
        giveFirst(x, 9998);
        fine(x, WORK, "use 0 1 0;", 1);
        due(9899, () -> x.person(0, 0));
        due(99 + 99, () -> x.person(1, 0));
        fine(x, WORK, "use 1 7 0;", 1);
        due(9998, () -> x.person(0, 0));
        fine(x, WORK, "use 1 7 0;", 1);
        due("what would be more is lost", 9999, () -> x.person(0, 0));
        due("it is paid all the same", 0, () -> x.person(1, 0));
        due(9999, () -> x.told(7));
        giveFirst(x, 9999);
        law(x, "0");
        fine(x, WORK, "use 1 7 0;sell 7 1 0;", 2);
        due(9999, () -> x.person(0, 0));
    }

    /** Gives PERSON 0 so many coins, as no text can. */
    private static void giveFirst(WidowSeven x, int coins) {
        try {
            Field land = WidowSeven.class.getDeclaredField("land");
            land.setAccessible(true);
            Field row = land.get(x).getClass().getDeclaredField("row");
            row.setAccessible(true);
            Field at = land.get(x).getClass().getDeclaredField("COINS_AT");
            at.setAccessible(true);
            ((int[]) row.get(land.get(x)))[at.getInt(null)] = coins;
        } catch (ReflectiveOperationException e) {
            must(false, "coins are held elsewhere now: " + e);
        }
    }

    private static void day() {
        sentence(5, "day (REFUSED on DAY 900): the DAY is one more");
        WidowSeven x = lastDay();
        due(900, () -> x.told(1));
        fine(x, WORK, "day;use 0 9 0;day;", 1);
        due(2, () -> x.told(6));
        due(900, () -> x.told(1));
        WidowSeven y = in("person 1;");
        for (int i = 0; i < 4; i++) {
            work(y, "again 60[day;day;day;];");
        }
        fine(y, WORK, "again 59[day;day;day;];day;day;", 179);
        due(899, () -> y.told(1));
        fine(y, WORK, "day;day;", 1);
        due(900, () -> y.told(1));
        due(1, () -> y.told(6));

        sentence(5, "nothing was used by then (all are used 0 times)");
        WidowSeven z = in("person 1;");
        work(z, "again 30[use 0 0 0;use 0 60 1;];use 0 30 2;");
        due(61, () -> z.told(4));
        due(30, () -> z.number(60, 2));
        work(z, "day;");
        due(0, () -> z.told(4));
        for (int n : new int[] {0, 30, 60}) {
            due(0, () -> z.number(n, 2));
        }
        fine(x, WORK, "use 0 9 0;day;", 1);
        due(1, () -> x.told(6));
        due("a REFUSED day lets them be used", 2, () -> x.told(4));
    }

    // ---- promise 8 ----

    private static void undo() {
        sentence(8, "The latest WORK that was done is undone: how many are left; -1: there is none");
        WidowSeven x = in(TWO);
        String first = seenOfLand(x);
        due(-1, x::undo);
        same(first, seenOfLand(x));
        work(x, "use 0 4 1;use 1 9 0;rent 9 9;");
        String second = seenOfLand(x).replaceFirst("^told (\\S+ \\S+ \\S+ \\S+ \\S+ \\S+) 1", "told $1 0");
        work(x, "day;sell 7 1 5;rent 7 1;sell 20 0 9;");
        due("a WORK of nothing, too", 0, () -> work(x, ""));
        due(2, x::undo);
        due(1, () -> x.number(7, 0));
        due(1, x::undo);
        same(second, seenOfLand(x));
        due(0, x::undo);
        same(first, seenOfLand(x));
        due(-1, x::undo);
        due(-1, x::undo);
        same(first, seenOfLand(x));
        WidowSeven full = new WidowSeven();
        for (int i = 0; i < 16; i++) {
            work(full, "day;");
        }
        due("one that was answered by -20 is none", -20, () -> work(full, "day;"));
        for (int i = 15; i >= 0; i--) {
            int left = i;
            due(left, full::undo);
            due(left, () -> full.told(1));
        }
        due(-1, full::undo);
        due("one with a FAULT is none", -9, () -> work(full, "day;?"));
        due(-1, full::undo);
        due("it is no refusal by an exception", 0, () -> full.status(0) + full.status(1));
    }

    // ---- promise 9 ----

    private static void told() {
        sentence(9, "0 PERSONS, 1 the DAY, 2 the duty, 3 NUMBERS that are somebody's, 4 uses of this DAY, 5 lines of the BOOK");
        WidowSeven x = in(TWO);
        book(x, "7 3;14 1;5 9;");
        work(x, "day;use 1 9 0;day;use 1 9 0;use 0 8 0;sell 60 0 0;");
        int[] want = {2, 2, 1, 6, 2, 3, 0, 55};
        for (int what = 0; what < 8; what++) {
            int w = what;
            due("told " + w, want[w], () -> x.told(w));
        }
        WidowSeven most = in("person 999;".repeat(6) + "duty 20;");
        fine(most, BOOK, "0 1;1 1;2 1;3 1;4 1;5 1;6 1;7 1;", 8);
        int[] greatest = {6, 0, 20, 0, 0, 8, 0, 5994};
        for (int what = 0; what < 8; what++) {
            int w = what;
            due("told " + w, greatest[w], () -> most.told(w));
        }
        due("all are somebody's", 61, () -> allButFree("").told(3));
        due("RENTS are no uses", 0, () -> in("person 9;own 0 0 40;own 60 0 40;").told(4));

        sentence(9, "6 STEPS REFUSED by the latest WORK (0 ahead of any, behind undo(), restore())");
        WidowSeven y = in(TWO);
        due("ahead of any", 0, () -> y.told(6));
        work(y, "again 60[rent 9 1;rent 9 2;rent 9 3;];again 60[rent 9 1;];");
        due("all but two agains", 198, () -> y.told(6));
        work(y, "day;rent 9 1;");
        due("of the latest one alone", 1, () -> y.told(6));
        work(y, "day;");
        due(0, () -> y.told(6));
        work(y, "rent 9 1;rent 9 1;");
        y.image();
        due(2, () -> y.told(6));
        y.undo();
        due("behind undo()", 0, () -> y.told(6));
        work(y, "rent 9 1;");
        y.restore();
        due("behind restore()", 0, () -> y.told(6));
        work(y, "rent 9 1;");
        due(-1, y::restore);
        due("nothing was restored", 1, () -> y.told(6));
        work(y, "rent 9 1;rent 9 1;rent 9 1;?");
        due("a WORK with a FAULT is none", 1, () -> y.told(6));
        land(y, TWO);
        due("ahead of any again", 0, () -> y.told(6));
        due(-1, y::undo);

        sentence(9, "7 coins of all");
        due(0, () -> new WidowSeven().told(7));
        due(0, () -> in("person 0;person 0;").told(7));
        due(1998, () -> in("person 999;person 999;").told(7));

        sentence(9, "IllegalArgumentException: another what (so below)");
        ranges("told", (w, a) -> w.told(a[0]), 0, new int[] {0}, new int[] {7});
    }

    // ---- promises 37 to 40 ----

    private static void image() {
        sentence(37, "how many there are; -1: there are 3");
        WidowSeven x = in(TWO);
        due(1, x::image);
        work(x, "day;");
        due(2, x::image);
        work(x, "day;");
        due(3, x::image);
        work(x, "day;");
        due(-1, x::image);
        due(3, () -> x.count(0));
        due("the latest is as it was", 2, x::restore);
        due(2, () -> x.told(1));
        due("there is room for one", 3, x::image);
        due(-1, x::image);
        due("it is no refusal by an exception", 0, () -> x.status(0) + x.status(1));

        sentence(37, "An IMAGE of all that WORK changes, and of the WORKS that can be undone");
        WidowSeven y = livedIn();
        String before = seenOfLand(y).replaceFirst("^told (\\S+ \\S+ \\S+ \\S+ \\S+ \\S+) \\S+", "told $1 0");
        due(2, y::image);
        work(y, "day;use 0 0 0;sell 7 1 0;rent 7 1;sell 60 0 1;rent 60 9;");
        y.undo();
        y.undo();
        y.undo();
        work(y, "sell 3 1 0;");
        due(1, y::restore);
        same(before, seenOfLand(y));
        due("both WORKS can be undone", 1, y::undo);
        due("the first of them was not", 1, () -> y.told(1));
        due(0, y::undo);
        due(0, () -> y.told(1));
        due(-1, y::undo);
        WidowSeven z = in(TWO);
        z.image();
        law(z, "7");
        book(z, "7 1;");
        z.restore();
        due("a LAW is no WORK", 7, () -> z.fare(7, 0));
        due("nor is a BOOK", 1, () -> z.told(5));
    }

    private static void restore() {
        sentence(38, "All is as in the latest IMAGE, which is gone: how many are left; -1: there is none");
        WidowSeven x = livedIn();
        x.restore();
        String before = seen(x);
        due(-1, x::restore);
        same(before, seen(x));
        due(-1, x::restore);
        WidowSeven y = new WidowSeven();
        y.image();
        work(y, "day;");
        y.image();
        work(y, "day;");
        y.image();
        work(y, "day;");
        for (int left = 2; left >= 0; left--) {
            int l = left;
            due(l, y::restore);
            due(l, () -> y.told(1));
            due(l, () -> y.count(2));
            due(l, () -> y.count(0));
        }
        due(-1, y::restore);
        due("it is no refusal by an exception", 0, () -> y.status(0) + y.status(1));
        // an IMAGE that is behind a WORK which was undone, or ahead of one that was not
        WidowSeven z = new WidowSeven();
        work(z, "day;");
        z.image();
        z.undo();
        due(0, z::restore);
        due(1, () -> z.told(1));
        due(0, z::undo);
        due(0, () -> z.told(1));
    }

    private static void status() {
        sentence(39, "0 NoSuchElementException, 1 IllegalArgumentException; NONE for others");
        WidowSeven x = in(TWO);
        for (int what : new int[] {-1, 2, Integer.MIN_VALUE, Integer.MAX_VALUE}) {
            due(-1, () -> x.status(what));
        }
        due("that is not refused", 0, () -> x.status(0) + x.status(1));
        answer(() -> x.person(2, 0));
        answer(() -> x.number(61, 9));
        answer(() -> x.affords(2, 61, 9));
        due("once for each call", 3, () -> x.status(0));
        due(0, () -> x.status(1));
        answer(() -> x.told(8));
        answer(() -> x.would(61, 41, 3, 6, 1000, 901));
        answer(() -> x.land(1));
        answer(() -> x.work(-1));
        due(3, () -> x.status(0));
        due(4, () -> x.status(1));

        sentence(39, "(No IMAGE keeps it.)");
        x.image();
        answer(() -> x.person(2, 0));
        answer(() -> x.told(8));
        x.restore();
        due(4, () -> x.status(0));
        due(5, () -> x.status(1));
        work(x, "day;");
        answer(() -> x.told(8));
        x.undo();
        due("nothing is undone of it", 6, () -> x.status(1));
        fine(x, LAND, "", 0);
        due("it is of the calls, not of a LAND", 4, () -> x.status(0));
        due(6, () -> x.status(1));
    }

    private static void count() {
        sentence(40, "0 IMAGES, 1 bytes of the TAPE, 2 WORKS that can be undone; NONE for others");
        WidowSeven x = new WidowSeven();
        for (int what : new int[] {-1, 3, Integer.MIN_VALUE, Integer.MAX_VALUE}) {
            due(-1, () -> x.count(what));
        }
        due("that is not refused", 0, () -> x.status(0) + x.status(1));
        due(0, () -> x.count(0) + x.count(1) + x.count(2));
        for (int i = 0; i < 17; i++) {
            work(x, "");
            x.image();
        }
        put(x, " ".repeat(620));
        due(3, () -> x.count(0));
        due(600, () -> x.count(1));
        due(16, () -> x.count(2));
        x.land(0);
        due(0, () -> x.count(0) + x.count(1) + x.count(2));
    }

    private static void calls() {
        sentence(40, "An object is used for at most 512 calls after it has been made");
        WidowSeven x = new WidowSeven();
        for (int i = 0; i < 102; i++) {
            // "day;": five calls that come back to where they began
            due(20, () -> x.feed(0x6461793b, 0, 0, 0, 0));
            due(1, () -> x.work(4));
            due(1, x::image);
            due(0, x::restore);
            due(0, x::undo);
        }
        due("the 511th", ILLEGAL, () -> x.told(8));
        due("the 512th", 1, () -> x.status(1));
        WidowSeven y = in("person 9;person 0;own 7 0 40;own 60 0 9;");
        int[] first = {y.span(7, 20, 96, 0), y.look(0, 3, 1), y.cost(7), y.round(0, 60, 0)};
        for (int i = 0; i < 120; i++) {
            due("dear calls, 480 of them", first[0], () -> y.span(7, 20, 96, 0));
            due(first[1], () -> y.look(0, 3, 1));
            due(first[2], () -> y.cost(7));
            due(first[3], () -> y.round(0, 60, 0));
        }
    }
}
