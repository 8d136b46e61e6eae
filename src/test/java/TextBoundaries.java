/** The sentences about the TAPE, LAND, LAW, WORK and BOOK as texts, and about their FAULTS: promises 2 to 7. */
final class TextBoundaries extends Boundaries {
    private static final Teller LAND = Checks::land;
    private static final Teller LAW = Checks::law;
    private static final Teller WORK = Checks::work;
    private static final Teller BOOK = Checks::book;

    static void all() {
        tape();
        landCall();
        landClauses();
        lawCall();
        lawValues();
        workCall();
        workSteps();
        bookCall();
        numbersAndWords();
        faultPlaces();
        faultKinds();
        faultCall();
    }

    // ---- promise 2 ----

    private static void tape() {
        sentence(2, "Twenty bytes come on the TAPE, of each number the highest first: how many there are");
        WidowSeven x = in("person 1;");
        // "use ", "0 60", " 2;d", "ay;d", "ay ;"
        due(20, () -> x.feed(0x75736520, 0x30203630, 0x20323b64, 0x61793b64, 0x6179203b));
        due(3, () -> x.work(20));
        // bytes above 127 and 0 are bytes like others: "  1", 128 and "1", 255, "  "
        due(20, () -> x.feed(0x20203180, 0, 0, 0, 0));
        due(-9, () -> x.law(4));
        due(3, x::fault);
        due(20, () -> x.feed(0x31ff2020, 0, 0, 0, 0));
        due(-9, () -> x.law(4));
        due(1, x::fault);
        due(20, () -> x.feed(0x31000000, 0, 0, 0, 0));
        due(-9, () -> x.law(2));
        due(1, x::fault);
        due(20, () -> x.feed(-1, -1, -1, -1, -1));
        due(40, () -> x.feed(Integer.MIN_VALUE, Integer.MAX_VALUE, 0, 0, 0));

        sentence(2, "NONE, doing nothing, if there would be more than 600");
        WidowSeven full = new WidowSeven();
        due(580, () -> feedBlanks(full, 29));
        // "duty", " 7; ", blanks
        due("600 are not more than 600", 600, () -> full.feed(0x64757479, 0x20373b20, 0x20202020, 0x20202020, 0x20202020));
        due(-1, () -> full.feed(0x3f3f3f3f, 0x3f3f3f3f, 0x3f3f3f3f, 0x3f3f3f3f, 0x3f3f3f3f));
        due(-1, () -> full.feed(0, 0, 0, 0, 0));
        due(600, () -> full.count(1));
        due("it is no refusal by an exception", 0, () -> full.status(0) + full.status(1));
        due(0, () -> full.land(600));
        due("the TAPE is what it was", 7, () -> full.told(2));
        due("there is room again", 20, () -> full.feed(0, 0, 0, 0, 0));
    }

    private static int feedBlanks(WidowSeven x, int times) {
        int bytes = 0;
        for (int i = 0; i < times; i++) {
            bytes = x.feed(0x20202020, 0x20202020, 0x20202020, 0x20202020, 0x20202020);
        }
        return bytes;
    }

    // ---- promise 3 ----

    private static void landCall() {
        sentence(3, "The first n bytes of the TAPE (empty then) are the LAND");
        WidowSeven x = new WidowSeven();
        put(x, "person 3;person 4;");
        due("not the second one", 1, () -> x.land(9));
        due(0, () -> x.count(1));
        put(x, "person 3;person 4;");
        due("no byte", 0, () -> x.land(0));
        due(0, () -> x.count(1));
        due("no byte of none", 0, () -> x.land(0));
        put(x, "person 3;person 4;  ");
        due("all bytes", 2, () -> x.land(20));
        // a digit or a letter behind them is none of the text
        put(x, "person 3;duty 1");
        due(-9, () -> x.land(14));
        due("the text ends behind \"duty \"", 14, x::fault);
        put(x, "person 12;");
        due(-9, () -> x.land(8));
        due(8, x::fault);
        put(x, "rents");
        due(1, () -> x.law(4));
        put(x, "99");
        due(1, () -> x.law(1));
        due(9, () -> x.would(0, 0, 0, 0, 0, 0));

        sentence(3, "no LAW, BOOK, IMAGES, nothing to undo");
        WidowSeven y = livedIn();
        law(y, "77");
        due(2, () -> land(y, TWO));
        due("no LAW", 10, () -> y.fare(7, 1));
        due("no BOOK", 0, () -> y.told(5));
        due(0, () -> y.buy(9999, 0));
        due("no IMAGES", 0, () -> y.count(0));
        due("nothing to undo", 0, () -> y.count(2));
        String before = seenOfLand(y);
        due(-1, y::restore);
        due(-1, y::undo);
        same(before, seenOfLand(y));
        due("three IMAGES find room", 1, y::image);
        due(2, y::image);
        due(3, y::image);
        for (int i = 0; i < 16; i++) {
            due("sixteen WORKS, too", 1, () -> work(y, "day;"));
        }

        sentence(3, "how many PERSONS; or the FAULT less 10 (all stays)");
        due(0, () -> land(new WidowSeven(), "duty 1;"));
        due(6, () -> land(new WidowSeven(), "person 1;".repeat(6)));
        String[] wrong = {"person 7;person", "person 7;duty 21;", "person 1;".repeat(7)};
        int[] answers = {-9, -8, -7};
        for (int i = 0; i < 3; i++) {
            int at = i;
            WidowSeven z = livedIn();
            String ahead = seenOfLand(z);
            due(answers[i], () -> land(z, wrong[at]));
            same(ahead, seenOfLand(z));
            due("the TAPE is empty", 0, () -> z.count(1));
            due("what could be undone can be", 1, z::undo);
            due("the IMAGE is there", 0, z::restore);
        }

        sentence(3, "n is not 0 to the TAPE's bytes (it stays)");
        wrongLength(WidowSeven::land, 600);
        due(ILLEGAL, () -> new WidowSeven().land(1));
        WidowSeven kept = new WidowSeven();
        put(kept, "person 3;");
        due(ILLEGAL, () -> kept.land(21));
        due(ILLEGAL, () -> kept.land(-1));
        due("what stands on it stays", 1, () -> kept.land(9));
        due(3, () -> kept.person(0, 0));
    }

    private interface Reading {
        int read(WidowSeven x, int n);
    }

    /** n from 0 to the TAPE's bytes is read, but no more than the text may have. */
    private static void wrongLength(Reading call, int most) {
        int bytes = Math.min(600, most + 20) / 20 * 20;
        for (int n : new int[] {-1, Math.min(most, bytes) + 1, bytes + 1, Integer.MIN_VALUE, Integer.MAX_VALUE}) {
            WidowSeven x = livedIn();
            law(x, "?");
            feedBlanks(x, bytes / 20);
            String before = seen(x);
            due("n " + n, ILLEGAL, () -> call.read(x, n));
            same(before, seen(x));
            due("the TAPE stays", bytes, () -> x.count(1));
            due("so does the FAULT", 0, x::fault);
            due(1, () -> x.status(1));
            due(0, () -> x.status(0));
        }
        for (int n : new int[] {0, most}) {
            WidowSeven x = livedIn();
            feedBlanks(x, bytes / 20);
            must(answer(() -> call.read(x, n)) > ILLEGAL, "n " + n + " is refused");
            due("the TAPE is empty then", 0, () -> x.count(1));
        }
        WidowSeven x = livedIn();
        feedBlanks(x, 1);
        due("no more than there are", ILLEGAL, () -> call.read(x, 21));
        must(answer(() -> call.read(x, 20)) > ILLEGAL, "all there are");
        due("none are left", ILLEGAL, () -> call.read(x, 1));
    }

    private static void landClauses() {
        WidowSeven x = new WidowSeven();
        sentence(3, "A LAND is a text of up to 600 bytes");
        String ahead = "person 1;" + " ".repeat(584);
        fine(x, LAND, ahead + "duty 9;", 1);
        due("the last byte is read", 9, () -> x.told(2));
        faulty(x, LAND, ahead + "duty 9?", 1, 599);
        faulty(x, LAND, ahead + "   duty", 1, 600);
        faulty(x, LAND, ahead + "   dutz", 1, 596);
        faulty(x, LAND, ahead + " duty 9", 1, 600);
        faulty(x, LAND, ahead + "duty 99", 2, 598);

        sentence(3, "{ CLAUSE \";\" }, at most 60");
        fine(x, LAND, "", 0);
        fine(x, LAND, "duty 3;", 0);
        fine(x, LAND, "person 1;" + "own1 0 1;".repeat(58) + "duty 5;", 1);
        due("the 60th counts", 5, () -> x.told(2));
        faulty(x, LAND, "person 1;" + "own1 0 1;".repeat(58) + "duty 5;duty", 3, 538);
        faulty(x, LAND, "duty 1;".repeat(61), 3, 420);
        faulty(x, LAND, "duty 1;".repeat(60) + "own 0 0 0;", 3, 420);
        faulty(x, LAND, "duty 1;".repeat(60) + " person 0;", 3, 421);
        faulty(x, LAND, "duty 1", 1, 6);

        sentence(3, "PERSONS, numbered from 0 on, 6 at most");
        fine(x, LAND, "person 10;person 11;person 12;person 13;person 14;person 15;", 6);
        due(10, () -> x.person(0, 0));
        due(15, () -> x.person(5, 0));
        due(NO_SUCH, () -> x.person(6, 0));
        faulty(x, LAND, "person 1;".repeat(6) + "duty 1;  person 1;", 3, 63);

        sentence(3, "has C coins, 0 to 999");
        fine(x, LAND, "person 0;person 999;", 2);
        due(0, () -> x.person(0, 0));
        due(999, () -> x.person(1, 0));
        faulty(x, LAND, "person 1000;", 2, 7);
        faulty(x, LAND, "person;", 1, 6);

        sentence(3, "NUMBER N, 0 to 60");
        fine(x, LAND, "person 1;own 0 0 3;own 60 0 4;", 1);
        due(0, () -> x.number(0, 0));
        due(3, () -> x.number(0, 1));
        due(0, () -> x.number(60, 0));
        due(4, () -> x.number(60, 1));
        due("those between are nobody's", 2, () -> x.told(3));
        faulty(x, LAND, "person 1;own 61 0 1;", 2, 13);

        sentence(3, "is PERSON P's, told ahead");
        fine(x, LAND, "person 1;person 1;own 5 0 1;own 6 1 1;", 2);
        due(1, () -> x.number(6, 0));
        faulty(x, LAND, "own 5 0 1;person 1;", 2, 6);
        faulty(x, LAND, "person 1;own 5 1 1;person 1;", 2, 15);
        fine(x, LAND, "person 1;".repeat(6) + "own 5 5 1;", 6);
        faulty(x, LAND, "person 1;".repeat(6) + "own 5 6 1;", 2, 60);

        sentence(3, "by RENT R, 0 to 40");
        fine(x, LAND, "person 1;own 5 0 0;own 6 0 40;", 1);
        due(0, () -> x.number(5, 1));
        due("somebody's for nothing", 0, () -> x.number(5, 0));
        due(40, () -> x.number(6, 1));
        faulty(x, LAND, "person 1;own 5 0 41;", 2, 17);

        sentence(3, "of one N the last counts");
        fine(x, LAND, "person 1;person 1;own 5 0 30;own 6 0 7;own 5 1 20;", 2);
        due(1, () -> x.number(5, 0));
        due(20, () -> x.number(5, 1));
        due("it is one NUMBER", 2, () -> x.told(3));
        due(1, () -> x.person(0, 1));

        sentence(3, "(0 to 20 a sum; 2 without; the last counts)");
        fine(x, LAND, "duty 0;", 0);
        due(0, () -> x.told(2));
        fine(x, LAND, "duty 20;", 0);
        due(20, () -> x.told(2));
        fine(x, LAND, "", 0);
        due("without, behind one with", 2, () -> x.told(2));
        fine(x, LAND, "duty 20;duty 0;duty 3;", 0);
        due(3, () -> x.told(2));
        faulty(x, LAND, "duty 21;", 2, 5);
        due(3, () -> x.told(2));

        sentence(3, "NUMBERS that are nobody's have RENT 0");
        fine(x, LAND, "person 1;own 30 0 40;", 1);
        for (int n : new int[] {0, 1, 29, 31, 59, 60}) {
            due(-1, () -> x.number(n, 0));
            due(0, () -> x.number(n, 1));
        }
    }

    // ---- promise 4 ----

    private static void lawCall() {
        sentence(4, "Likewise the LAW (n to 150): 1");
        wrongLength(WidowSeven::law, 150);
        WidowSeven x = in(TWO);
        law(x, "42");
        faulty(x, LAW, "1+", 1, 2);
        due("a LAW with a FAULT lets the one that is there stay", 42, () -> x.fare(7, 0));
        faulty(x, LAW, "1000", 2, 0);
        faulty(x, LAW, "(((((((1)))))))", 3, 6);
        due(42, () -> x.fare(7, 0));
        put(x, "17 + 4 + 1");
        due("the first n bytes", 1, () -> x.law(6));
        due(21, () -> x.fare(7, 0));

        sentence(4, "A LAW is a text of up to 150 bytes: E, at the end nothing more");
        fine(x, LAW, " ".repeat(147) + "5+6", 1);
        due("the last byte is read", 11, () -> x.fare(7, 0));
        fine(x, LAW, "1" + "+1".repeat(74) + "2", 1);
        due("75 numbers, the last one of two digits", 86, () -> x.fare(7, 0));
        faulty(x, LAW, " ".repeat(147) + "56+", 1, 150);
        faulty(x, LAW, "7;", 1, 1);
        faulty(x, LAW, "7 7", 1, 2);
        faulty(x, LAW, "rent rent", 1, 5);
        faulty(x, LAW, "(7))", 1, 3);
        faulty(x, LAW, "7]", 1, 1);
        faulty(x, LAW, "7,7", 1, 1);
        faulty(x, LAW, "", 1, 0);
        faulty(x, LAW, " ", 1, 1);

        sentence(4, "without: rent / (1 + way)");
        WidowSeven y = in("person 0;own 9 0 40;own 8 0 1;own 7 0 0;");
        int[][] want = {{40, 20, 13}, {1, 0, 0}, {0, 0, 0}};
        for (int i = 0; i < 3; i++) {
            for (int way = 0; way < 3; way++) {
                int at = i;
                int w = way;
                due(want[at][w], () -> y.fare(9 - at, w));
            }
        }
    }

    private static void lawValues() {
        WidowSeven x = in("person 50;person 5;own 0 0 8;own 1 1 8;own 7 0 20;own 60 1 40;");
        sentence(4, "what comes out, 0 at least, 99 at most");
        comesOut(x, "0-1", 0);
        comesOut(x, "0-999*999", 0);
        comesOut(x, "0", 0);
        comesOut(x, "1", 1);
        comesOut(x, "99", 99);
        comesOut(x, "100", 99);
        comesOut(x, "999", 99);

        sentence(4, "of one that is nobody's: 0");
        law(x, "99");
        due(0, () -> x.fare(2, 0));
        due(0, () -> x.fare(59, 2));
        due(99, () -> x.fare(7, 0));

        sentence(4, "U: N (0 to 999)");
        comesOut(x, "999-990", 9);
        comesOut(x, "000999-990", 9);
        comesOut(x, "0+000", 0);
        faulty(x, LAW, "1000", 2, 0);
        faulty(x, LAW, "0-1000", 2, 2);
        faulty(x, LAW, "-1", 1, 0);

        sentence(4, "\"parts\" (how many it can be divided by, 1 and itself, too; of 0: 0)");
        law(x, "parts+3");
        due(3, () -> x.fare(0, 0));
        due(4, () -> x.fare(1, 0));
        due(5, () -> x.fare(7, 0));
        due(15, () -> x.fare(60, 0));
        law(x, "parts");
        for (int n = 0; n <= 60; n++) {
            int number = n;
            int parts = 0;
            for (int d = 1; d <= n; d++) {
                parts += n % d == 0 ? 1 : 0;
            }
            due("parts of " + n, parts, () -> x.would(number, 0, 0, 0, 0, 0));
        }

        sentence(4, "\"used\" (how often it was used by now), \"day\"");
        law(x, "used*10+day");
        due(0, () -> x.fare(7, 0));
        work(x, "day;use 0 7 0;use 0 7 0;use 0 60 0;");
        due(21, () -> x.fare(7, 0));
        due(11, () -> x.fare(60, 0));
        due(1, () -> x.fare(1, 0));

        sentence(4, "Values are whole numbers of 32 bits that wrap");
        // 2 to the 31st is the least number, one less is the greatest one
        comesOut(x, "512*512*512*16", 0);
        comesOut(x, "512*512*512*16-1", 99);
        comesOut(x, "(512*512*512*16-1)/999/999/51", 42);
        comesOut(x, "0-512*512*512*16", 0);
        comesOut(x, "512*512*512*32+3", 3);
        comesOut(x, "512*512*512*16+512*512*512*16+4", 4);
        comesOut(x, "0-512*512*512*16-512*512*512*16+5", 5);
        comesOut(x, "512*512*512*16/(0-1)", 0);
        comesOut(x, "(512*512*512*16+6)-(512*512*512*16)/(0-1)", 6);
        comesOut(x, "512*512*512*16%(0-1)+7", 7);

        sentence(4, "/ cuts, % leaves (with the sign of what is divided), by 0 both are 0");
        comesOut(x, "7/2", 3);
        comesOut(x, "(0-7)/2+10", 7);
        comesOut(x, "7/(0-2)+10", 7);
        comesOut(x, "(0-7)/(0-2)", 3);
        comesOut(x, "7%4", 3);
        comesOut(x, "(0-7)%4+10", 7);
        comesOut(x, "7%(0-4)", 3);
        comesOut(x, "(0-7)%(0-4)+10", 7);
        comesOut(x, "7/0+1", 1);
        comesOut(x, "7%0+2", 2);
        comesOut(x, "0/0+0%0+3", 3);
        comesOut(x, "7/(1-1)*5+7%(1-1)*5+4", 4);

        sentence(4, "E: T { + or - T }. T: U { * or / or % U }");
        comesOut(x, "5", 5);
        comesOut(x, "10-2-3", 5);
        comesOut(x, "10-(2-3)", 11);
        comesOut(x, "100/7*2", 28);
        comesOut(x, "100/(7*2)", 7);
        comesOut(x, "1+2*3-4/2", 5);
        comesOut(x, "(1+2)*3", 9);
        comesOut(x, "50%7%2*9", 9);

        sentence(4, "\"least\" \"[\" E \",\" E \"]\", \"most\" \"[\" E \",\" E \"]\", or \"(\" E \")\"");
        comesOut(x, "least[3,4]", 3);
        comesOut(x, "least[4,3]", 3);
        comesOut(x, "most[3,4]", 4);
        comesOut(x, "most[4,3]", 4);
        comesOut(x, "least[3,3]+most[4,4]", 7);
        comesOut(x, "most[0-5,0-4]+9", 5);
        comesOut(x, "least[512*512*512*16,1]+512*512*512*16+8", 8);
        faulty(x, LAW, "least[1]", 1, 7);
        faulty(x, LAW, "least[1,2,3]", 1, 9);
        faulty(x, LAW, "most(1,2)", 1, 4);
        faulty(x, LAW, "()", 1, 1);
    }

    private static void comesOut(WidowSeven x, String law, int fare) {
        due(law, 1, () -> law(x, law));
        due(law, fare, () -> x.fare(7, 0));
    }

    // ---- promise 5 ----

    private static void workCall() {
        sentence(5, "Likewise WORK (n to 150), which is done");
        wrongLength(WidowSeven::work, 150);
        WidowSeven x = new WidowSeven();
        put(x, "day;day;day;");
        due("the first n bytes", 2, () -> x.work(8));
        due(2, () -> x.told(1));
        due(1, () -> x.count(2));
        put(x, "day;");
        due("no STEP is a WORK, too", 0, () -> x.work(0));
        due(2, () -> x.count(2));
        due(1, x::undo);
        due(2, () -> x.told(1));

        sentence(5, "WORK is a text of up to 150 bytes: { STEP \";\" }");
        fine(x, WORK, "", 0);
        fine(x, WORK, "day;".repeat(37) + "  ", 37);
        fine(x, WORK, " ".repeat(146) + "day;", 1);
        faulty(x, WORK, " ".repeat(146) + "day?", 1, 149);
        faulty(x, WORK, " ".repeat(147) + "day", 1, 150);
        faulty(x, WORK, "day;;", 1, 4);

        sentence(5, "how many STEPS were done (agains not counted, nor REFUSED ones)");
        WidowSeven y = new WidowSeven();
        fine(y, WORK, "again 1[];again 0[day;];", 0);
        fine(y, WORK, "rent 0 1;", 0);
        fine(y, WORK, "day;rent 0 1;again 2[day;rent 0 1;again 1[day;];];", 5);

        sentence(5, "or the FAULT less 10 (none is)");
        String[] wrong = {"day;use 0 9 0;sell 9 0 1;?", "day;use 0 9 0;rent 7 1;use 0 9 3;", "day;rent 7 1;" + "again 1[".repeat(7)};
        for (int i = 0; i < 3; i++) {
            WidowSeven z = livedIn();
            String before = seenOfLand(z);
            int at = i;
            due(i - 9, () -> work(z, wrong[at]));
            same(before, seenOfLand(z));
            due("the TAPE is empty", 0, () -> z.count(1));
            due("it is no WORK that can be undone", 1, z::undo);
        }

        sentence(5, "-20 ahead of that (nothing is read, there is no FAULT, the TAPE is empty then): 16 WORKS are there that were not undone");
        WidowSeven w = new WidowSeven();
        for (int i = 0; i < 16; i++) {
            fine(w, WORK, i % 2 == 0 ? "day;" : "", 1 - i % 2);
        }
        due(16, () -> w.count(2));
        faulty(w, LAW, "?", 1, 0);
        fine(w, WORK, "day;", -20);
        faulty(w, LAW, "?", 1, 0);
        fine(w, WORK, "?", -20);
        fine(w, WORK, "", -20);
        due("nothing was done", 8, () -> w.told(1));
        due(16, () -> w.count(2));
        due(15, w::undo);
        fine(w, WORK, "day;", 1);
        fine(w, WORK, "day;", -20);
        w.image();
        w.undo();
        w.undo();
        due(0, w::restore);
        fine(w, WORK, "day;", -20);
        for (int i = 0; i < 16; i++) {
            w.undo();
        }
        due(0, () -> w.told(1));
        fine(w, WORK, "day;", 1);
        land(w, "");
        fine(w, WORK, "day;", 1);
    }

    private static void workSteps() {
        WidowSeven x = in("person 999;person 5;");
        sentence(5, "\"sell\" N P C (for C coins, 0 to 999)");
        fine(x, WORK, "sell 0 0 999;sell 60 1 0;", 2);
        due(0, () -> x.person(0, 0));
        due(5, () -> x.person(1, 0));
        faulty(x, WORK, "sell 0 0 1000;", 2, 9);
        faulty(x, WORK, "sell 61 0 0;", 2, 5);
        faulty(x, WORK, "sell 0 2 0;", 2, 7);
        faulty(x, WORK, "sell 0 0;", 1, 8);

        sentence(5, "P uses NUMBER N by WAY W (0 to 2)");
        fine(x, WORK, "use 0 0 0;use 0 30 1;use 1 60 2;", 3);
        due(3, () -> x.told(4));
        faulty(x, WORK, "use 2 0 0;", 2, 4);
        faulty(x, WORK, "use 0 61 0;", 2, 6);
        faulty(x, WORK, "use 0 0 3;", 2, 8);
        WidowSeven nobody = new WidowSeven();
        faulty(nobody, WORK, "use 0 0 0;", 2, 4);
        faulty(nobody, WORK, "sell 0 0 0;", 2, 7);
        WidowSeven six = in("person 1;".repeat(6));
        fine(six, WORK, "use 5 0 0;sell 1 5 1;", 2);
        faulty(six, WORK, "use 6 0 0;", 2, 4);

        sentence(5, "rent: RENT of N is R (0 to 40;");
        fine(x, WORK, "rent 0 40;rent 60 1;rent 60 0;", 3);
        due(40, () -> x.number(0, 1));
        due(0, () -> x.number(60, 1));
        faulty(x, WORK, "rent 0 41;", 2, 7);
        faulty(x, WORK, "rent 61 0;", 2, 5);

        sentence(5, "\"again\" N \"[\" { STEP \";\" } \"]\" (N 0 to 60)");
        WidowSeven y = new WidowSeven();
        fine(y, WORK, "again 0[day;];", 0);
        fine(y, WORK, "again 1[day;];", 1);
        fine(y, WORK, "again 60[day;];", 60);
        fine(y, WORK, "again 60[];", 0);
        fine(y, WORK, "again 2[day;again 3[day;];day;];day;", 11);
        faulty(y, WORK, "again 61[day;];", 2, 6);
        faulty(y, WORK, "again 1[day];", 1, 11);
        faulty(y, WORK, "again 1[day;]", 1, 13);
        faulty(y, WORK, "again 1[day;;];", 1, 12);
        faulty(y, WORK, "again [day;];", 1, 6);
        faulty(y, WORK, "again 0[day?];", 1, 11);
        faulty(y, WORK, "again 0[rent 61 0;];", 2, 13);
        faulty(y, WORK, "again 1 day;];", 1, 8);
        faulty(y, WORK, "];", 1, 0);
        due(72, () -> y.told(1));
    }

    // ---- promise 6 ----

    private static void bookCall() {
        sentence(6, "Likewise the BOOK (n to 100): how many lines");
        wrongLength(WidowSeven::book, 100);
        WidowSeven x = in(TWO);
        put(x, "7 3;14 1;5 9;");
        due("the first n bytes", 1, () -> x.book(4));
        due(1, () -> x.told(5));
        faulty(x, BOOK, "7 3;14 1", 1, 8);
        faulty(x, BOOK, "7 3;14 31;", 2, 7);
        faulty(x, BOOK, "0 1;1 1;2 1;3 1;4 1;5 1;6 1;7 1;8 1;", 3, 32);
        due("the one that is there stays", 1, () -> x.told(5));
        due(30, () -> x.buy(9999, 0));

        sentence(6, "A BOOK is one of up to 100 bytes: { N T \";\" }, 8 lines at most, no N twice");
        fine(x, BOOK, "", 0);
        fine(x, BOOK, " ".repeat(96) + "7 3;", 1);
        faulty(x, BOOK, " ".repeat(96) + "7 31", 2, 98);
        faulty(x, BOOK, " ".repeat(97) + "7 3", 1, 100);
        fine(x, BOOK, "0 1;1 1;2 1;3 1;4 1;5 1;6 1;60 1;", 8);
        faulty(x, BOOK, "0 1;1 1;2 1;3 1;4 1;5 1;6 1;60 1; 7 1;", 3, 34);
        faulty(x, BOOK, "0 1;1 1;2 1;3 1;4 1;5 1;6 1;60 1;7", 3, 33);
        faulty(x, BOOK, "7 1;7 1;", 2, 4);
        faulty(x, BOOK, "7 1;8 1; 007 1;", 2, 9);
        faulty(x, BOOK, "0 1;1 1;0 1;", 2, 8);
        faulty(x, BOOK, "60 1;1 1;60 1;", 2, 9);
        due(8, () -> x.told(5));
        fine(x, BOOK, "7 2;", 1);
        fine(x, BOOK, "7 3;", 1);
        due("what stood in the BOOK before is no N twice", 30, () -> x.buy(9999, 0));

        sentence(6, "NUMBER N will be said T times (1 to 30)");
        fine(x, BOOK, "7 1;", 1);
        due(10, () -> x.buy(9999, 0));
        fine(x, BOOK, "7 30;", 1);
        due(300, () -> x.buy(9999, 0));
        faulty(x, BOOK, "7 0;", 2, 2);
        faulty(x, BOOK, "7 31;", 2, 2);
        faulty(x, BOOK, "61 1;", 2, 0);
        faulty(x, BOOK, "7;", 1, 1);
    }

    // ---- what texts are made of ----

    private static void numbersAndWords() {
        WidowSeven x = in(TWO);
        sentence(3, "Numbers: digits, as many as stand there");
        fine(x, LAND, "person" + "0".repeat(560) + "7;", 1);
        due(7, () -> x.person(0, 0));
        faulty(x, LAND, "person" + "1".repeat(560) + ";", 2, 6);
        // 2 to the 32nd and to the 64th, and 5: wrapped they would be 5
        faulty(x, LAND, "person 4294967301;", 2, 7);
        faulty(x, LAND, "person 18446744073709551621;", 2, 7);
        faulty(x, LAND, "duty 10000000001;", 2, 5);
        faulty(x, LAND, "person 1;own 1 01;", 2, 15);
        faulty(x, LAND, "person 1;own 100;", 2, 13);
        faulty(x, LAND, "person 1:", 1, 8);
        faulty(x, LAND, "person /1;", 1, 7);
        faulty(x, LAND, "person 1.0;", 1, 8);

        sentence(3, "WORDS: small letters, as many as stand there");
        fine(x, LAND, "person5;duty3;", 1);
        faulty(x, LAND, "persons 5;", 1, 0);
        faulty(x, LAND, "perso 5;", 1, 0);
        faulty(x, LAND, "personduty 5;", 1, 0);
        faulty(x, LAND, "Person 5;", 1, 0);
        faulty(x, LAND, "DUTY 5;", 1, 0);
        faulty(x, LAND, "use 0 0 0;", 1, 0);
        faulty(x, LAW, "rentz", 1, 0);
        faulty(x, LAW, "rent{", 1, 4);
        faulty(x, LAW, "rent`", 1, 4);
        faulty(x, LAW, "rentA", 1, 4);
        faulty(x, LAW, "day1", 1, 3);
        faulty(x, LAW, "least1", 1, 5);
        faulty(x, WORK, "daya;", 1, 0);
        faulty(x, WORK, "da;", 1, 0);
        faulty(x, WORK, "dayday;", 1, 0);

        sentence(3, "blanks (32) may stand ahead of all these, and at the end");
        fine(x, LAND, "  person  5  ;  own  1  0  2  ;  duty  3  ;  ", 1);
        fine(x, LAND, "   ", 0);
        fine(x, LAW, "  (  1  +  least  [  2  ,  rent  ]  )  *  3  ", 1);
        fine(x, WORK, "  again  2  [  day  ;  rent  0  1  ;  ]  ;  ", 2);
        fine(x, BOOK, "  7  3  ;  5  1  ;  ", 2);
        faulty(x, LAND, "\tduty 1;", 1, 0);
        faulty(x, LAND, "duty\n1;", 1, 4);
        faulty(x, LAND, "duty 1;\r", 1, 7);
        faulty(x, LAND, "duty 1;" + (char) 160, 1, 7);
        faulty(x, LAND, "duty 1;" + (char) 0, 1, 7);
        faulty(x, LAND, "du ty 1;", 1, 0);
        faulty(x, LAND, "duty 1 0;", 1, 7);
        faulty(x, LAW, "1 1", 1, 2);
    }

    // ---- FAULTS ----

    private static void faultPlaces() {
        WidowSeven x = in(TWO);
        sentence(7, "FAULTS, the first from the left, at its first byte");
        faulty(x, LAND, "duty 21;?", 2, 5);
        faulty(x, LAND, "duty 1?;duty 21;", 1, 6);
        faulty(x, LAND, "  duty   0021;", 2, 9);
        faulty(x, LAND, "person 1;own 61 7 41;", 2, 13);
        faulty(x, LAND, "person 1;own 60 7 41;", 2, 16);
        faulty(x, LAND, "person 1;own 60 0 41;", 2, 18);
        faulty(x, LAND, "duty 1;  lords 5;", 1, 9);
        faulty(x, WORK, "again 61[again 1[again 1[again 1[again 1[again 1[again 1[", 2, 6);
        faulty(x, WORK, "use 9 99 9;", 2, 4);
        faulty(x, LAW, "((((((1000+(1", 2, 6);
        faulty(x, LAW, "((((((1+(1000", 3, 8);
        faulty(x, BOOK, "1 31;1 1;", 2, 2);
        faulty(x, BOOK, "1 1;1 31;", 2, 4);

        sentence(7, "1 what can't stand there (at the length, if the text ends too early)");
        faulty(x, LAND, "person", 1, 6);
        faulty(x, LAND, "person  ", 1, 8);
        faulty(x, LAND, "person 1", 1, 8);
        faulty(x, LAND, "person 1   ", 1, 11);
        faulty(x, LAND, "person 1;own 1 0 ", 1, 17);
        faulty(x, LAND, "perso", 1, 0);
        faulty(x, LAW, "", 1, 0);
        faulty(x, LAW, "    ", 1, 4);
        faulty(x, LAW, "1+", 1, 2);
        faulty(x, LAW, "(1 ", 1, 3);
        faulty(x, LAW, "least", 1, 5);
        faulty(x, LAW, "least[1,2", 1, 9);
        faulty(x, WORK, "again 3[day; ", 1, 13);
        faulty(x, WORK, "again 3[day;]", 1, 13);
        faulty(x, BOOK, "7 ", 1, 2);
        faulty(x, LAND, "?", 1, 0);
        faulty(x, LAND, ";", 1, 0);
        faulty(x, LAND, "7;", 1, 0);
        faulty(x, LAND, "person ;", 1, 7);
        faulty(x, LAND, "person x;", 1, 7);
        faulty(x, BOOK, "x;", 1, 0);
        // a text that ends too early ends at n, whatever stands behind
        put(x, "person 1;");
        due(-9, () -> x.land(8));
        due(8, x::fault);
    }

    private static void faultKinds() {
        WidowSeven x = in(TWO);
        sentence(7, "2 a number that is none such (an N twice in a BOOK)");
        faulty(x, LAND, "person 1000;", 2, 7);
        faulty(x, LAND, "own 61 0 0;", 2, 4);
        faulty(x, LAND, "own 60 0 0;", 2, 7);
        faulty(x, LAW, "1000", 2, 0);
        faulty(x, WORK, "again 61[", 2, 6);
        faulty(x, WORK, "use 0 0 3", 2, 8);
        faulty(x, BOOK, "5 0;", 2, 2);
        faulty(x, BOOK, "5 1;6 1;5 1;", 2, 8);

        sentence(7, "3 a CLAUSE or PERSON too many (at its word), a line too many (at its N)");
        faulty(x, LAND, "duty 1;".repeat(60) + "  duty 99", 3, 422);
        faulty(x, LAND, "person 1;".repeat(6) + "  person", 3, 56);
        faulty(x, LAND, "duty 1;".repeat(54) + "person 1;".repeat(6) + "person 1;", 3, 432);
        faulty(x, BOOK, "0 1;1 1;2 1;3 1;4 1;5 1;6 1;7 1;  8 99", 3, 34);

        sentence(7, "or a 7th of ( least most again that is open at one time");
        fine(x, LAW, "((((((1))))))", 1);
        faulty(x, LAW, "(((((( (1", 3, 7);
        fine(x, LAW, "least[1,least[1,least[1,most[1,most[1,most[1,2]]]]]]", 1);
        faulty(x, LAW, "least[1,least[1,least[1,most[1,most[1,most[1,most", 3, 45);
        faulty(x, LAW, "least[least[least[most[most[most[(1", 3, 33);
        faulty(x, LAW, "((((((least", 3, 6);
        faulty(x, LAW, "((((((most", 3, 6);
        fine(x, LAW, "(((most[1,((2))+((3))])))", 1);
        fine(x, LAW, "(1)+(1)+(1)+(1)+(1)+(1)+(1)", 1);
        faulty(x, LAW, "(((most[((2)),(((3", 3, 16);
        fine(x, WORK, "again 1[".repeat(6) + "day;" + "];".repeat(6), 1);
        faulty(x, WORK, "again 1[".repeat(6) + "day; again", 3, 53);
        fine(x, WORK, "again 1[];".repeat(7), 0);
        fine(x, WORK, "again 1[".repeat(5) + "again 1[];again 1[];" + "];".repeat(5), 0);

        sentence(7, "that is open at one time; of one the least");
        faulty(x, LAND, "duty 1;".repeat(60) + "x", 1, 420);
        faulty(x, LAND, "duty 1;".repeat(60) + "personx 1;", 1, 420);
        faulty(x, LAND, "duty 1;".repeat(60) + "7;", 1, 420);
        faulty(x, BOOK, "0 1;1 1;2 1;3 1;4 1;5 1;6 1;7 1;61 1;", 2, 32);
        faulty(x, BOOK, "0 1;1 1;2 1;3 1;4 1;5 1;6 1;7 1;7 1;", 2, 32);
        faulty(x, BOOK, "0 1;1 1;2 1;3 1;4 1;5 1;6 1;7 1;x 1;", 1, 32);
        faulty(x, LAW, "((((((leasts", 1, 6);
        faulty(x, WORK, "again 1[".repeat(6) + "agains", 1, 48);
    }

    private static void faultCall() {
        sentence(7, "The place of the FAULT of the latest text; NONE without");
        WidowSeven x = new WidowSeven();
        due("no text", -1, x::fault);
        law(x, "?");
        due("the first place", 0, x::fault);
        law(x, "7");
        due(-1, x::fault);
        land(x, " ".repeat(600 - 6) + "duty 1");
        due("the last place", 600, x::fault);
        x.feed(0, 0, 0, 0, 0);
        answer(() -> x.land(21));
        answer(() -> x.law(-1));
        x.undo();
        x.image();
        x.restore();
        answer(() -> x.told(9));
        due("no text came", 600, x::fault);
        due(-9, () -> x.book(1));
        due(0, x::fault);
        book(x, "");
        due("one of no bytes has none", -1, x::fault);
    }
}
