/** For each promise of the document: ordinary inputs, the edges that it names, wrong inputs; all worked out by hand. */
public final class PromiseTest extends Checks {
    public static void main(String[] args) {
        newObject();
        feed();
        land();
        landFaults();
        law();
        lawFaults();
        work();
        workFaults();
        workLimits();
        book();
        fault();
        undo();
        told();
        person();
        number();
        fare();
        would();
        cost();
        saying();
        leaves();
        out();
        round();
        buy();
        meant();
        look();
        dice();
        lets();
        tax();
        dearest();
        landlord();
        common();
        affords();
        worth();
        run();
        cheapest();
        primes();
        poorest();
        sayable();
        year();
        span();
        image();
        restore();
        status();
        count();
        end("promises");
    }

    // ---- promises 1 to 8 ----

    private static void newObject() {
        about("1 a new object");
        WidowSeven x = new WidowSeven();
        due(-1, () -> WidowSeven.NONE);
        due(0, () -> x.told(0));
        due(0, () -> x.told(1));
        due(2, () -> x.told(2));
        due(0, () -> x.told(3));
        due(0, () -> x.told(4));
        due(0, () -> x.told(5));
        due(0, () -> x.told(6));
        due(0, () -> x.told(7));
        due(-1, x::fault);
        for (int what = 0; what < 3; what++) {
            int w = what;
            due(0, () -> x.count(w));
        }
        due(0, () -> x.status(0));
        due(0, () -> x.status(1));
        due(NO_SUCH, () -> x.person(0, 0));
    }

    private static void feed() {
        about("2 feed");
        WidowSeven x = new WidowSeven();
        due(20, () -> x.feed(1, 2, 3, 4, 5));
        due(40, () -> x.feed(-1, -2, -3, -4, -5));
        for (int bytes = 60; bytes <= 600; bytes += 20) {
            due(bytes, () -> x.feed(0, 0, 0, 0, 0));
        }
        due(-1, () -> x.feed(0, 0, 0, 0, 0));
        due(600, () -> x.count(1));
        // "day ", ";day", ";   ": the highest byte of each number comes first
        WidowSeven y = new WidowSeven();
        due(20, () -> y.feed(0x64617920, 0x3b646179, 0x3b202020, 0x20202020, 0x20202020));
        due(2, () -> y.work(20));
        WidowSeven z = new WidowSeven();
        put(z, "day;".repeat(6));
        due(6, () -> z.work(24));
    }

    private static void land() {
        about("3 land");
        WidowSeven x = new WidowSeven();
        fine(x, PromiseTest::land, "", 0);
        fine(x, PromiseTest::land, "   ", 0);
        fine(x, PromiseTest::land, TWO, 2);
        fine(x, PromiseTest::land, "  person 007  ;person9;own1 0 2 ; own 1 1 3;duty20;duty 0;  ", 2);
        due(7, () -> x.person(0, 0));
        due(1, () -> x.number(1, 0));
        due(3, () -> x.number(1, 1));
        due(0, () -> x.told(2));
        fine(x, PromiseTest::land, "person 0;person 999;own 60 0 40;own 0 1 0;", 2);
        due(2, () -> x.told(2));
        fine(x, PromiseTest::land, "person 1;".repeat(6), 6);
        fine(x, PromiseTest::land, "duty 1;".repeat(60), 0);

        // a text that fills the TAPE, with blanks, digits and letters at its end
        String full = "duty 1;" + " ".repeat(593);
        fine(x, PromiseTest::land, full, 0);
        faulty(x, PromiseTest::land, full.substring(0, 588) + "duty 0000000", 1, 600);
        faulty(x, PromiseTest::land, full.substring(0, 596) + "duty", 1, 600);
        fine(x, PromiseTest::land, full.substring(0, 593) + "duty 2;", 0);
        due(2, () -> x.told(2));

        // all that came before is gone
        land(x, TWO);
        law(x, "7");
        book(x, "7 1;");
        work(x, "day;use 1 7 0;");
        x.image();
        due(1, () -> x.told(6));
        fine(x, PromiseTest::land, TWO, 2);
        due(0, () -> x.told(1));
        due(0, () -> x.told(5));
        due(0, () -> x.told(6));
        due(10, () -> x.fare(7, 1));
        due(-1, x::undo);
        due(-1, x::restore);

        // wrong n: the TAPE stays, and so does the FAULT
        land(x, "?");
        put(x, "person 3;");
        due(ILLEGAL, () -> x.land(-1));
        due(ILLEGAL, () -> x.land(21));
        due(0, x::fault);
        due(20, () -> x.count(1));
        due(1, () -> x.land(9));
        due(ILLEGAL, () -> x.land(1));
    }

    private static void landFaults() {
        about("3 land, faults");
        WidowSeven x = in(TWO);
        law(x, "5");
        book(x, "7 1;");
        work(x, "day;");
        x.image();
        Teller t = PromiseTest::land;
        faulty(x, t, "persons 1;", 1, 0);
        faulty(x, t, "Person 1;", 1, 0);
        faulty(x, t, "  person ;", 1, 9);
        faulty(x, t, "person 1", 1, 8);
        faulty(x, t, "person 1  ", 1, 10);
        faulty(x, t, "person 1 1;", 1, 9);
        faulty(x, t, "person -1;", 1, 7);
        faulty(x, t, ";", 1, 0);
        faulty(x, t, "person 1;;", 1, 9);
        faulty(x, t, "person 1;\u0000", 1, 9);
        faulty(x, t, "person 1;\u00e9", 1, 9);
        faulty(x, t, "person 1000;", 2, 7);
        faulty(x, t, "person 18446744073709551616;", 2, 7);
        faulty(x, t, "person 4294967297;", 2, 7);
        faulty(x, t, "own 0 0 0;", 2, 6);
        faulty(x, t, "person 1;own 61 0 0;", 2, 13);
        faulty(x, t, "person 1;own 60 1 0;person 1;", 2, 16);
        faulty(x, t, "person 1;own 60 0 41;", 2, 18);
        faulty(x, t, "duty 21;", 2, 5);
        faulty(x, t, "duty 21", 2, 5);
        faulty(x, t, "person 1;".repeat(7), 3, 54);
        faulty(x, t, "person 1;".repeat(6) + " person", 3, 55);
        faulty(x, t, "duty 1;".repeat(61), 3, 420);
        faulty(x, t, "duty 1;".repeat(60) + "person", 3, 420);
        faulty(x, t, "duty 1;".repeat(60) + "dut", 1, 420);
        faulty(x, t, "duty 1;".repeat(60) + ";", 1, 420);
        // all stays
        due(2, () -> x.told(0));
        due(1, () -> x.told(1));
        due(1, () -> x.told(2));
        due(1, () -> x.told(5));
        due(5, () -> x.fare(7, 1));
        due(1, () -> x.count(0));
        due(1, () -> x.count(2));
    }

    private static void law() {
        about("4 law");
        WidowSeven x = in(TWO);
        fine(x, PromiseTest::law, "rent", 1);
        due(20, () -> x.fare(7, 2));
        fine(x, PromiseTest::law, " 10 - 2 - 3 ", 1);
        due(5, () -> x.fare(7, 0));
        fine(x, PromiseTest::law, "2+3*4", 1);
        due(14, () -> x.fare(7, 0));
        fine(x, PromiseTest::law, "(2+3)*4", 1);
        due(20, () -> x.fare(7, 0));
        fine(x, PromiseTest::law, "100/7%4*3", 1);
        due(6, () -> x.fare(7, 0));
        fine(x, PromiseTest::law, "(0-7)/2+9", 1);
        due(6, () -> x.fare(7, 0));
        fine(x, PromiseTest::law, "(0-7)%4+9", 1);
        due(6, () -> x.fare(7, 0));
        fine(x, PromiseTest::law, "7%(0-4)", 1);
        due(3, () -> x.fare(7, 0));
        fine(x, PromiseTest::law, "5+7/0+7%0", 1);
        due(5, () -> x.fare(7, 0));
        fine(x, PromiseTest::law, "999", 1);
        due(99, () -> x.fare(7, 0));
        fine(x, PromiseTest::law, "1-2", 1);
        due(0, () -> x.fare(7, 0));
        fine(x, PromiseTest::law, "least[rent,3]+most [ 1 , 2 ]", 1);
        due(5, () -> x.fare(7, 0));
        // 512 to the third power times 16 is 2 to the 31st: it wraps to the least number
        fine(x, PromiseTest::law, "512*512*512*16/(0-1)+512*512*512*16%(0-1)", 1);
        due(0, () -> x.fare(7, 0));
        fine(x, PromiseTest::law, "0-512*512*512*16-1", 1);
        due(99, () -> x.fare(7, 0));
        fine(x, PromiseTest::law, "512*512*512*32+3", 1);
        due(3, () -> x.fare(7, 0));
        fine(x, PromiseTest::law, "((((((1))))))+((((((1))))))", 1);
        due(2, () -> x.fare(7, 0));
        fine(x, PromiseTest::law, "least[1,least[1,least[1,least[1,least[1,least[1,2]]]]]]", 1);
        fine(x, PromiseTest::law, "1" + "+1".repeat(74) + " ", 1);
        due(75, () -> x.fare(7, 0));
        // the deepest that can wait: three values for each of six that are open
        fine(x, PromiseTest::law, "1+1*least[0,1+1*least[0,1+1*least[0,1+1*least[0,1+1*least[0,1+1*most[0,1+1*1]]]]]]", 1);
        due(1, () -> x.fare(7, 0));
        fine(x, PromiseTest::law, "1+1*most[0,1+1*most[0,1+1*most[0,1+1*most[0,1+1*most[0,1+1*most[0,1+1*1]]]]]]", 1);
        due(8, () -> x.fare(7, 0));
        // a LAW lets the rest stay
        book(x, "7 1;");
        work(x, "day;");
        x.image();
        fine(x, PromiseTest::law, "1", 1);
        due(1, () -> x.count(0));
        due(1, () -> x.count(2));
        due(1, () -> x.told(5));
        due(1, () -> x.told(1));
    }

    private static void lawFaults() {
        about("4 law, faults");
        WidowSeven x = in(TWO);
        law(x, "42");
        Teller t = PromiseTest::law;
        faulty(x, t, "", 1, 0);
        faulty(x, t, "   ", 1, 3);
        faulty(x, t, "rents", 1, 0);
        faulty(x, t, "rentused", 1, 0);
        faulty(x, t, "rentz", 1, 0);
        faulty(x, t, "arent", 1, 0);
        faulty(x, t, "rent{", 1, 4);
        faulty(x, t, "rent`", 1, 4);
        faulty(x, t, "1:", 1, 1);
        faulty(x, t, "l", 1, 0);
        faulty(x, t, "2rent", 1, 1);
        faulty(x, t, "rent rent", 1, 5);
        faulty(x, t, "rent+", 1, 5);
        faulty(x, t, "rent+ ", 1, 6);
        faulty(x, t, "-1", 1, 0);
        faulty(x, t, "1+*2", 1, 2);
        faulty(x, t, "1;", 1, 1);
        faulty(x, t, "(1", 1, 2);
        faulty(x, t, "(1]", 1, 2);
        faulty(x, t, "1)", 1, 1);
        faulty(x, t, "()", 1, 1);
        faulty(x, t, "least(1,2)", 1, 5);
        faulty(x, t, "least[1]", 1, 7);
        faulty(x, t, "least[1,2", 1, 9);
        faulty(x, t, "least[1,2)", 1, 9);
        faulty(x, t, "most[,2]", 1, 5);
        faulty(x, t, "1000", 2, 0);
        faulty(x, t, "1+ 1000+", 2, 3);
        faulty(x, t, "99999999999999999999", 2, 0);
        faulty(x, t, "(((((((1)))))))", 3, 6);
        faulty(x, t, "((((((least", 3, 6);
        faulty(x, t, "((((((mos", 1, 6);
        faulty(x, t, "(((least[1,(( most[", 3, 14);
        faulty(x, t, "most[most[most[most[most[most[1,(1),", 3, 32);
        due(42, () -> x.fare(7, 0));
        String long151 = "1" + "+1".repeat(75);
        put(x, long151);
        due(ILLEGAL, () -> x.law(151));
        due(160, () -> x.count(1));
        due(1, () -> x.law(149));
        due(75, () -> x.fare(7, 0));
        due(ILLEGAL, () -> x.law(1));
        due(ILLEGAL, () -> x.law(-1));
    }

    private static void work() {
        about("5 work");
        WidowSeven x = in(TWO);
        fine(x, PromiseTest::work, "", 0);
        due(1, () -> x.count(2));
        fine(x, PromiseTest::work, "use 1 3 1;", 1);
        due(54, () -> x.person(0, 0));
        due(1, () -> x.person(1, 0));
        due(1, () -> x.number(3, 2));
        // 1 coin is left: 4 is too dear by far, passing costs 2, his own and nobody's are free
        fine(x, PromiseTest::work, "use 1 3 1;use 1 3 2;use 1 14 0;use 1 9 0;", 2);
        due(2, () -> x.told(6));
        due(1, () -> x.number(14, 2));
        due(1, () -> x.number(9, 2));
        due(1, () -> x.number(3, 2));
        due(1, () -> x.person(1, 0));
        // sold: to its owner, for too much, from somebody, from nobody
        fine(x, PromiseTest::work, "sell 7 0 0;sell 7 1 2;sell 14 0 10;sell 20 0 4;sell 1 0 0;", 3);
        due(2, () -> x.told(6));
        due(40, () -> x.person(0, 0));
        due(11, () -> x.person(1, 0));
        due(0, () -> x.number(14, 0));
        due(30, () -> x.number(14, 1));
        due(0, () -> x.number(20, 0));
        due(0, () -> x.number(20, 1));
        due(51, () -> x.told(7));
        // let dearer: nobody's, as it is, another
        fine(x, PromiseTest::work, "rent 30 1;rent 7 20;rent 7 40;rent 20 1;", 2);
        due(40, () -> x.number(7, 1));
        due(1, () -> x.number(20, 1));
        due(0, () -> x.number(30, 1));
        // a day
        fine(x, PromiseTest::work, "day;use 0 0 0;use 0 0 0;day;use 0 1 2;", 5);
        due(2, () -> x.told(1));
        due(1, () -> x.told(4));
        due(0, () -> x.number(0, 2));
        due(1, () -> x.number(1, 2));
        // a use counts for the next one's FARE
        WidowSeven y = in("person 20;person 0;own 5 1 3;");
        law(y, "rent + used");
        fine(y, PromiseTest::work, "again 9[use 0 5 0;];", 4);
        due(5, () -> y.told(6));
        due(2, () -> y.person(0, 0));
        due(18, () -> y.person(1, 0));
        fine(y, PromiseTest::work, "use 1 5 0;day;use 0 5 1;", 2);
        due(1, () -> y.told(6));
        // exactly as many coins as it costs
        fine(y, PromiseTest::work, "rent 5 2;use 0 5 0;sell 5 0 0;use 0 5 0;", 4);
        due(0, () -> y.person(0, 0));
        WidowSeven z = in("person 9;person 9;");
        fine(z, PromiseTest::work, "sell 0 0 9;sell 0 1 9;", 2);
        due(9, () -> z.person(0, 0));
        due(0, () -> z.person(1, 0));
    }

    private static void workFaults() {
        about("5 work, faults");
        WidowSeven x = in(TWO);
        work(x, "use 1 14 0;use 1 7 0;");
        Teller t = PromiseTest::work;
        faulty(x, t, "days;", 1, 0);
        faulty(x, t, "day", 1, 3);
        faulty(x, t, "day ;]", 1, 5);
        faulty(x, t, ";", 1, 0);
        faulty(x, t, "day;3", 1, 4);
        faulty(x, t, "use 0 0;", 1, 7);
        faulty(x, t, "use 2 0 0;", 2, 4);
        faulty(x, t, "use 0 61 0;", 2, 6);
        faulty(x, t, "use 0 0 3;", 2, 8);
        faulty(x, t, "sell 61 0 0;", 2, 5);
        faulty(x, t, "sell 0 2 0;", 2, 7);
        faulty(x, t, "sell 0 0 1000;", 2, 9);
        faulty(x, t, "rent 61 0;", 2, 5);
        faulty(x, t, "rent 0 41;", 2, 7);
        faulty(x, t, "again 61[];", 2, 6);
        faulty(x, t, "again 1(];", 1, 7);
        faulty(x, t, "again 1[day];", 1, 11);
        faulty(x, t, "again 1[day;]", 1, 13);
        faulty(x, t, "again 1[day;;", 1, 12);
        faulty(x, t, "again 1[day;  ", 1, 14);
        faulty(x, t, "day;day;day;use 0 0 9;", 2, 20);
        faulty(x, t, "again 1[".repeat(7), 3, 48);
        faulty(x, t, "again 1[".repeat(6) + " again", 3, 49);
        faulty(x, t, "again 1[".repeat(6) + "agai", 1, 48);
        // none was done, the latest WORK is as it was
        due(0, () -> x.told(1));
        due(1, () -> x.told(6));
        due(1, () -> x.count(2));
        fine(x, t, "again 0[".repeat(6) + "];".repeat(6), 0);
        fine(x, t, "again 1[again 2[day;];];again 1[];", 2);
        put(x, " ".repeat(151));
        due(ILLEGAL, () -> x.work(151));
        due(ILLEGAL, () -> x.work(-1));
        due(160, () -> x.count(1));
        due(0, () -> x.work(150));
        WidowSeven nobody = new WidowSeven();
        faulty(nobody, t, "use 0 0 0;", 2, 4);
        faulty(nobody, t, "sell 0 0 0;", 2, 7);
        fine(nobody, t, "rent 0 0;day;", 1);
        fine(nobody, t, "day;".repeat(37), 37);
    }

    private static void workLimits() {
        about("5 work, limits");
        Teller t = PromiseTest::work;
        // an again is begun each time it is come to; REFUSED STEPS are begun, too
        WidowSeven x = new WidowSeven();
        fine(x, t, "again 60[again 60[day;];];", 195);
        due(195, () -> x.told(1));
        WidowSeven y = new WidowSeven();
        fine(y, t, "again 60[again 1[day;];];again 60[again 0[day;];];again 60[day;];", 60 + 17);
        WidowSeven z = new WidowSeven();
        fine(z, t, "again 60[rent 0 1;rent 1 1;day;];again 60[day;];", 78);
        due(120, () -> z.told(6));
        due(78, () -> z.told(1));
        WidowSeven u = new WidowSeven();
        fine(u, t, "again 60[day;day;day;];again 60[day;];", 198);
        fine(u, t, "again 60[day;day;day;];day;".repeat(2), 181 + 17);
        // DAY 900 is the last one
        WidowSeven v = new WidowSeven();
        for (int i = 0; i < 5; i++) {
            work(v, "again 60[day;day;day;];");
        }
        due(900, () -> v.told(1));
        fine(v, t, "day;day;", 0);
        due(2, () -> v.told(6));
        due(900, () -> v.told(1));
        // 16 WORKS
        WidowSeven w = new WidowSeven();
        for (int i = 0; i < 16; i++) {
            fine(w, t, "day;rent 0 0;", 1);
        }
        faulty(w, PromiseTest::law, "?", 1, 0);
        fine(w, t, "day;", -20);
        fine(w, t, "????", -20);
        due(1, () -> w.told(6));
        due(16, () -> w.told(1));
        put(w, "day;");
        due(ILLEGAL, () -> w.work(21));
        due(20, () -> w.count(1));
        due(15, w::undo);
        due(1, () -> w.work(4));
        fine(w, t, "", -20);
    }

    private static void book() {
        about("6 book");
        WidowSeven x = in(TWO);
        Teller t = PromiseTest::book;
        fine(x, t, "7 3;14 1;", 2);
        due(2, () -> x.told(5));
        fine(x, t, "", 0);
        fine(x, t, " 0 1 ;60 30; 007 09;", 3);
        fine(x, t, "0 1;1 1;2 1;3 1;4 1;5 1;6 1;7 1;", 8);
        faulty(x, t, "0 1;1 1;2 1;3 1;4 1;5 1;6 1;7 1; 8 1;", 3, 33);
        faulty(x, t, "0 1;1 1;2 1;3 1;4 1;5 1;6 1;7 1;61 1;", 2, 32);
        faulty(x, t, "0 1;1 1;2 1;3 1;4 1;5 1;6 1;7 1;3 1;", 2, 32);
        faulty(x, t, "0 1;1 1;2 1;3 1;4 1;5 1;6 1;7 1;x", 1, 32);
        faulty(x, t, "61 1;", 2, 0);
        faulty(x, t, "1 0;", 2, 2);
        faulty(x, t, "1 31;", 2, 2);
        faulty(x, t, "1 1;2 1; 1 1;", 2, 9);
        faulty(x, t, "1 1;01 0;", 2, 4);
        faulty(x, t, "1;", 1, 1);
        faulty(x, t, "1 1", 1, 3);
        faulty(x, t, "use 1;", 1, 0);
        due(8, () -> x.told(5));
        put(x, " ".repeat(101));
        due(ILLEGAL, () -> x.book(101));
        due(ILLEGAL, () -> x.book(-1));
        due(120, () -> x.count(1));
        due(0, () -> x.book(100));
        due(ILLEGAL, () -> x.book(1));
    }

    private static void fault() {
        about("7 fault");
        WidowSeven x = new WidowSeven();
        due(-1, x::fault);
        law(x, "1+");
        due(2, x::fault);
        x.undo();
        x.image();
        x.restore();
        due(2, x::fault);
        answer(() -> x.book(1));
        due(2, x::fault);
        book(x, "");
        due(-1, x::fault);
    }

    private static void undo() {
        about("8 undo");
        WidowSeven x = in(TWO);
        due(-1, x::undo);
        work(x, "use 1 3 1;use 1 3 1;sell 9 0 3;rent 9 2;day;use 0 0 0;");
        work(x, "sell 7 1 0;rent 50 1;");
        due(1, () -> x.number(7, 0));
        due(1, () -> x.told(6));
        due(1, x::undo);
        due(0, () -> x.number(7, 0));
        due(1, () -> x.told(1));
        due(2, () -> x.number(9, 1));
        due(0, () -> x.told(6));
        law(x, "9");
        book(x, "7 1;");
        due(0, x::undo);
        due(0, () -> x.told(1));
        due(-1, () -> x.number(9, 0));
        due(0, () -> x.number(9, 1));
        due(55, () -> x.told(7));
        due(5, () -> x.person(1, 0));
        due(0, () -> x.told(4));
        due(0, () -> x.told(6));
        due(-1, x::undo);
        due("the law is no work", 9, () -> x.fare(7, 0));
        due("nor is the book", 1, () -> x.told(5));
        work(x, "use 0 4 1;");
        work(x, "day;");
        due(0, () -> x.number(4, 2));
        due(1, x::undo);
        due("what was used comes back", 1, () -> x.number(4, 2));
    }

    // ---- promises 9 to 13 ----

    private static void told() {
        about("9 told");
        WidowSeven x = in(TWO);
        book(x, "7 3;14 1;5 9;");
        work(x, "day;use 1 9 0;use 1 9 0;use 0 8 0;use 1 7 0;rent 9 9;");
        int[] want = {2, 1, 1, 5, 3, 3, 2, 55};
        for (int what = 0; what < 8; what++) {
            int w = what;
            due("told " + w, want[w], () -> x.told(w));
        }
        WidowSeven y = in("person 999;person 999;person 999;person 999;person 999;person 999;own 0 0 1;own 60 5 1;");
        work(y, "use 0 0 0;use 5 60 0;");
        due(2, () -> y.told(3));
        due(2, () -> y.told(4));
        due(6, () -> y.told(0));
        due(5994, () -> y.told(7));
        due(0, () -> y.person(0, 4));
        due(60, () -> y.person(5, 3));
        due(ILLEGAL, () -> x.told(-1));
        due(ILLEGAL, () -> x.told(8));
        work(x, "");
        due(0, () -> x.told(6));
    }

    private static void person() {
        about("10 person");
        WidowSeven x = in("person 50;person 5;person 0;own 7 0 20;own 3 0 8;own 0 1 6;own 60 1 30;");
        int[][] want = {{50, 2, 28, 3, 7}, {5, 2, 36, 0, 60}, {0, 0, 0, -1, -1}};
        for (int p = 0; p < 3; p++) {
            for (int what = 0; what < 5; what++) {
                int q = p;
                int w = what;
                due("person " + q + " " + w, want[q][w], () -> x.person(q, w));
            }
        }
        due(NO_SUCH, () -> x.person(-1, 0));
        due(NO_SUCH, () -> x.person(3, 9));
        due(ILLEGAL, () -> x.person(2, 5));
        due(ILLEGAL, () -> x.person(0, -1));
    }

    private static void number() {
        about("11 number");
        WidowSeven x = in(TWO);
        work(x, "use 1 3 2;use 1 3 2;");
        int[][] want = {
            {0, -1, 0, 0, 0, -1}, {1, 1, 0, 0, 1, -1}, {2, -1, 0, 0, 2, 2}, {3, 0, 8, 2, 2, 3}, {7, 0, 20, 0, 2, 7},
            {14, 1, 30, 0, 4, 2}, {49, -1, 0, 0, 3, 7}, {36, -1, 0, 0, 9, 2}, {48, -1, 0, 0, 10, 2},
            {60, -1, 0, 0, 12, 2}, {55, -1, 0, 0, 4, 5}, {59, -1, 0, 0, 2, 59}};
        for (int[] row : want) {
            for (int what = 0; what < 5; what++) {
                int w = what;
                due("number " + row[0] + " " + w, row[w + 1], () -> x.number(row[0], w));
            }
        }
        for (int n = 0; n <= 60; n++) {
            int number = n;
            int parts = 0;
            for (int d = 1; d <= n; d++) {
                parts += n % d == 0 ? 1 : 0;
            }
            due("parts of " + n, parts, () -> x.number(number, 3));
        }
        due(NO_SUCH, () -> x.number(-1, 0));
        due(NO_SUCH, () -> x.number(61, 9));
        due(ILLEGAL, () -> x.number(0, 5));
        due(ILLEGAL, () -> x.number(60, -1));
    }

    private static void fare() {
        about("12 fare");
        WidowSeven x = in("person 50;person 5;own 7 0 20;own 12 1 8;own 5 1 39;own 0 1 7;");
        due(20, () -> x.fare(7, 0));
        due(10, () -> x.fare(7, 1));
        due(6, () -> x.fare(7, 2));
        due(19, () -> x.fare(5, 1));
        due(13, () -> x.fare(5, 2));
        due(0, () -> x.fare(8, 0));
        work(x, "day;day;use 0 8 0;use 1 7 2;use 0 12 1;use 0 12 1;use 0 12 1;");
        String[] laws = {"number", "rent", "way", "owner", "parts", "used", "day"};
        int[] seven = {7, 20, 2, 0, 2, 0, 2};
        int[] twelve = {12, 8, 1, 1, 6, 3, 2};
        for (int i = 0; i < 7; i++) {
            int at = i;
            fine(x, PromiseTest::law, laws[i], 1);
            due(laws[i], seven[at], () -> x.fare(7, 2));
            due(laws[i], twelve[at], () -> x.fare(12, 1));
            due(laws[i], 0, () -> x.fare(8, 1));
        }
        law(x, "parts+9");
        due("0 has no parts", 9, () -> x.fare(0, 0));
        due(NO_SUCH, () -> x.fare(-1, 0));
        due(NO_SUCH, () -> x.fare(61, 3));
        due(ILLEGAL, () -> x.fare(0, 3));
        due(ILLEGAL, () -> x.fare(8, -1));
    }

    private static void would() {
        about("13 would");
        WidowSeven x = new WidowSeven();
        due(40, () -> x.would(0, 40, 0, 5, 999, 900));
        due(20, () -> x.would(7, 40, 1, 0, 0, 0));
        due(13, () -> x.would(60, 40, 2, 0, 0, 0));
        law(x, "number+rent*2+way*3+owner*4+parts*5+used-day");
        due(12 + 2 + 6 + 12 + 30 + 5 - 6, () -> x.would(12, 1, 2, 3, 5, 6));
        due(99, () -> x.would(12, 1, 2, 3, 999, 6));
        due(0, () -> x.would(12, 1, 2, 3, 5, 900));
        int[][] outside = {{-1, 0, 0, 0, 0, 0}, {61, 0, 0, 0, 0, 0}, {0, -1, 0, 0, 0, 0}, {0, 41, 0, 0, 0, 0},
            {0, 0, -1, 0, 0, 0}, {0, 0, 3, 0, 0, 0}, {0, 0, 0, -1, 0, 0}, {0, 0, 0, 6, 0, 0}, {0, 0, 0, 0, -1, 0},
            {0, 0, 0, 0, 1000, 0}, {0, 0, 0, 0, 0, -1}, {0, 0, 0, 0, 0, 901}};
        for (int[] a : outside) {
            due(ILLEGAL, () -> x.would(a[0], a[1], a[2], a[3], a[4], a[5]));
        }
        due(12, () -> x.status(1));
    }

    // ---- promises 14 to 24 ----

    private static void speak(WidowSeven x, int number, int... want) {
        due("cost of " + number, want[0], () -> x.cost(number));
        due("leaves of " + number, want[1], () -> x.leaves(number));
        for (int i = 0; i < 3; i++) {
            int what = i;
            due("saying of " + number + " " + i, want[2 + i], () -> x.saying(number, what));
        }
    }

    private static void cost() {
        about("14 cost");
        WidowSeven x = in(TWO);
        due(1, () -> x.cost(7));
        due(0, () -> x.cost(5));
        due(0, () -> x.cost(1));
        // all are let by 20; 1 alone is free; duty 2
        WidowSeven y = allButFree("", 1);
        law(y, "20");
        due(0, () -> y.cost(1));
        due(2, () -> y.cost(0));
        due(2, () -> y.cost(2));
        due(4, () -> y.cost(3));
        due(6, () -> y.cost(4));
        due(8, () -> y.cost(5));
        due(8, () -> y.cost(6));
        // 59: 17 ones at the least, by 2 each, is more than 20
        due(20, () -> y.cost(59));
        due(NO_SUCH, () -> x.cost(61));
        due(NO_SUCH, () -> x.cost(-1));
    }

    private static void saying() {
        about("15 saying");
        WidowSeven x = in(TWO);
        speak(x, 7, 1, 2, 1, 1, 6);
        speak(x, 4, 1, 2, 1, 2, 2);
        speak(x, 5, 0, 1, 0, -1, -1);
        WidowSeven y = allButFree("", 1);
        law(y, "20");
        speak(y, 0, 2, 2, 2, 1, 1);
        speak(y, 2, 2, 2, 1, 1, 1);
        speak(y, 6, 8, 5, 3, 2, 3);
        speak(y, 5, 8, 5, 1, 1, 4);
        // 36 by six sixes, by two thirties, ..: the least first one
        speak(y, 36, 18, 10, 3, 2, 18);
        speak(y, 59, 20, 1, 0, -1, -1);
        // a dear duty: itself
        WidowSeven z = allButFree("duty 20;", 1);
        law(z, "20");
        speak(z, 0, 20, 1, 0, -1, -1);
        speak(z, 2, 20, 1, 0, -1, -1);
        // a difference of the least first NUMBER, 0 as a difference
        WidowSeven u = allButFree("duty 0;", 50, 43, 36);
        law(u, "99");
        speak(u, 7, 0, 2, 2, 43, 36);
        speak(u, 0, 0, 2, 2, 36, 36);
        speak(u, 14, 0, 2, 2, 50, 36);
        speak(u, 29, 0, 3, 2, 36, 7);
        speak(u, 57, 0, 3, 1, 7, 50);
        speak(u, 49, 0, 4, 3, 7, 7);
        // the least and the greatest NUMBER take part; a difference comes ahead of a product
        WidowSeven v = allButFree("duty 0;", 60, 53, 5, 3, 20);
        law(v, "99");
        speak(v, 7, 0, 2, 2, 60, 53);
        speak(v, 55, 0, 2, 2, 60, 5);
        speak(v, 15, 0, 2, 2, 20, 5);
        WidowSeven top = allButFree("duty 1;", 30, 0);
        law(top, "9");
        speak(top, 60, 1, 2, 1, 30, 30);
        WidowSeven none = allButFree("duty 1;", 0);
        law(none, "number+1");
        speak(none, 0, 0, 1, 0, -1, -1);
        // 3 times 4 times 5: 4 + 5 + 6, and two duties
        speak(none, 60, 17, 3, 3, 3, 20);
        due(NO_SUCH, () -> x.saying(61, 3));
        due(NO_SUCH, () -> x.saying(-1, 0));
        due(ILLEGAL, () -> x.saying(60, 3));
        due(ILLEGAL, () -> x.saying(60, -1));
    }

    private static void leaves() {
        about("16 leaves");
        WidowSeven x = in(TWO);
        due(2, () -> x.leaves(7));
        due(1, () -> x.leaves(5));
        WidowSeven y = allButFree("duty 0;", 1);
        law(y, "99");
        // the fewest ones by which each can be said
        int[] want = {2, 1, 2, 3, 4, 5, 5, 6, 6, 6, 7, 8, 7, 8};
        for (int n = 0; n < want.length; n++) {
            int number = n;
            due("leaves of " + n, want[n], () -> y.leaves(number));
        }
        // asked first of a new object, and first behind another LAW
        due(2, () -> in(TWO).leaves(7));
        law(x, "0");
        due(1, () -> x.leaves(7));
        due(NO_SUCH, () -> x.leaves(61));
        due(NO_SUCH, () -> x.leaves(-1));
    }

    private static void out() {
        about("17 out");
        WidowSeven x = in(TWO);
        due("somebody's, but for nothing", 0, () -> x.out(1));
        due(0, () -> x.out(60));
        due(1, () -> x.out(7));
        WidowSeven y = allButFree("", 7);
        law(y, "0");
        due(0, () -> y.out(7));
        due(1, () -> y.out(0));
        due(1, () -> y.out(14));
        due(1, () -> y.out(49));
        due(2, () -> y.out(21));
        due("49 and 7", 2, () -> y.out(56));
        due("49 less 7", 2, () -> y.out(42));
        due("42 less 7", 3, () -> y.out(35));
        due(-1, () -> y.out(8));
        due(-1, () -> y.out(60));
        WidowSeven z = allButFree("", 2);
        due("four and two", 2, () -> z.out(8));
        due("two fours: each is made anew", 3, () -> z.out(16));
        due(NO_SUCH, () -> x.out(61));
        due(NO_SUCH, () -> x.out(-1));
    }

    private static void round() {
        about("18 round");
        WidowSeven free = new WidowSeven();
        due(20, () -> free.round(0, 60, 1));
        due(3, () -> free.round(0, 60, 2));
        WidowSeven x = in(TWO);
        int[][] want = {
            {5, 9, 0, 2, 6}, {6, 7, 10, 1, 7}, {5, 8, 0, 1, 8}, {2, 6, 0, 2, 5}, {3, 3, 0, 0, -1}, {7, 4, 3, 1, 4},
            {0, 60, 0, 21, 2}, {60, 0, 0, 21, 57}, {60, 60, 0, 0, -1}, {12, 14, 15, 1, 14}, {13, 15, 0, 1, 15}};
        for (int[] row : want) {
            for (int what = 0; what < 3; what++) {
                int w = what;
                due(row[0] + " to " + row[1], row[2 + w], () -> x.round(row[0], row[1], w));
            }
        }
        // three in a row that cost 4, 2, 3 passed stand in the way: from 9 to 13 by the cheapest of them
        WidowSeven y = in("person 0;own 10 0 12;own 11 0 6;own 12 0 9;");
        due(2, () -> y.round(9, 13, 0));
        due(2, () -> y.round(9, 13, 1));
        due(11, () -> y.round(9, 13, 2));
        due("alike ones: the least first", 8, () -> in("person 0;").round(11, 5, 2));
        WidowSeven z = in("person 0;own 1 0 3;own 2 0 3;own 3 0 3;");
        due(1, () -> z.round(0, 4, 0));
        due(1, () -> z.round(0, 4, 2));
        // one that is dearer said than passed is come to just once
        WidowSeven u = in("person 0;own 5 0 40;own 6 0 40;own 7 0 40;");
        law(u, "way*0+rent-way*13");
        due(27, () -> u.round(4, 6, 0));
        due(1, () -> u.round(4, 6, 1));
        due(14, () -> u.round(4, 8, 0));
        due(2, () -> u.round(4, 8, 1));
        due(NO_SUCH, () -> x.round(61, 0, 0));
        due(NO_SUCH, () -> x.round(0, 61, 9));
        due(NO_SUCH, () -> x.round(-1, 0, 0));
        due(NO_SUCH, () -> x.round(0, -1, 0));
        due(ILLEGAL, () -> x.round(0, 0, 3));
        due(ILLEGAL, () -> x.round(0, 60, -1));
    }

    private static void buy() {
        about("19 buy");
        WidowSeven x = in(TWO);
        due(0, () -> x.buy(9999, 0));
        due(0, () -> x.buy(9999, 1));
        book(x, "7 3;14 1;5 9;3 2;");
        int[][] want = {{500, 38, 9}, {501, 38, 9}, {502, 45, 3}, {600, 45 + 8, 11}, {583, 53, 11}, {582, 45, 3}, {282, 38, 9}, {281, 30, 1},
            {200, 8, 8}, {80, 0, 0}, {81, 8, 8}, {0, 0, 0}, {9999, 53, 11}};
        for (int[] row : want) {
            due("saved by " + row[0], row[1], () -> x.buy(row[0], 0));
            due("bought by " + row[0], row[2], () -> x.buy(row[0], 1));
        }
        // alike: the least bits; what saves nothing is not bought
        WidowSeven y = in("person 0;own 1 0 2;own 2 0 2;own 3 0 0;");
        book(y, "3 30;2 5;1 5;");
        due(2, () -> y.buy(21, 1));
        due(6, () -> y.buy(99, 1));
        due(10, () -> y.buy(99, 0));
        // FARES as they are now
        law(y, "used*2");
        work(y, "use 0 1 0;use 0 1 0;");
        due(20, () -> y.buy(21, 0));
        due(4, () -> y.buy(21, 1));
        due(ILLEGAL, () -> x.buy(-1, 0));
        due(ILLEGAL, () -> x.buy(10000, 0));
        due(ILLEGAL, () -> x.buy(0, 2));
        due(ILLEGAL, () -> x.buy(0, -1));
    }

    private static void meant() {
        about("20 meant");
        WidowSeven x = in(TWO);
        int[][] want = {
            {10, 1, 1, 7}, {15, 1, 1, 14}, {0, 1, 56, 1}, {14, 2, 1, 307}, {6, 2, 1, 404}, {10, 2, 56, 107},
            {297, 3, 0, -1}, {45, 3, 1, 141414}, {30, 3, 57, 11414}, {1, 3, 0, -1}};
        for (int[] row : want) {
            due("rows by " + row[0], row[2], () -> x.meant(row[0], row[1], 0));
            due("first by " + row[0], row[3], () -> x.meant(row[0], row[1], 1));
        }
        // 0 is in no row
        WidowSeven y = in("person 0;own 0 0 10;");
        due(0, () -> y.meant(5, 1, 0));
        WidowSeven z = in("person 0;own 60 0 1;own 1 0 1;");
        law(z, "99");
        due(4, () -> z.meant(297, 3, 0));
        due(10101, () -> z.meant(297, 3, 1));
        due(3, () -> z.meant(198, 2, 0));
        due(2, () -> z.meant(99, 1, 0));
        due(ILLEGAL, () -> x.meant(-1, 1, 0));
        due(ILLEGAL, () -> x.meant(298, 1, 0));
        due(ILLEGAL, () -> x.meant(0, 0, 0));
        due(ILLEGAL, () -> x.meant(0, 4, 0));
        due(ILLEGAL, () -> x.meant(0, 1, 2));
        due(ILLEGAL, () -> x.meant(0, 1, -1));
    }

    private static void look() {
        about("21 look");
        WidowSeven x = in("person 0;own 10 0 2;own 20 0 4;own 30 0 6;own 40 0 8;");
        // said, they cost 1, 2, 3 and 4
        due("none is left: the least NUMBER", 1, () -> x.look(99, 2, 0));
        due(0, () -> x.look(99, 2, 1));
        due(2, () -> x.meant(6, 2, 0));
        due("20 40 or 30 30: the least that parts them", 20, () -> x.look(6, 2, 0));
        due(1, () -> x.look(6, 2, 1));
        due("one row, 30 40: nothing tells", 1, () -> x.look(7, 2, 0));
        due(1, () -> x.look(7, 2, 1));
        due("10 40 40, 20 30 40, 30 30 30", 3, () -> x.meant(9, 3, 0));
        due(104040, () -> x.meant(9, 3, 1));
        due(10, () -> x.look(9, 3, 0));
        due(2, () -> x.look(9, 3, 1));
        due("40 and one of 56 free ones, 10 30, 20 20", 58, () -> x.meant(4, 2, 0));
        due(40, () -> x.look(4, 2, 0));
        due(56, () -> x.look(4, 2, 1));
        // one that stands twice in a row is in it once: 10 10 or 20 30; 10 10 30 or 20 30 30
        WidowSeven y = in("person 0;own 10 0 6;own 20 0 4;own 30 0 8;");
        due(10, () -> y.look(6, 2, 0));
        due(1, () -> y.look(6, 2, 1));
        due(10, () -> y.look(10, 3, 0));
        due(1, () -> y.look(10, 3, 1));
        // the last of three tells: 10 10 20 or 10 10 30
        WidowSeven z = in("person 0;own 10 0 6;own 20 0 8;own 30 0 8;");
        due(2, () -> z.meant(10, 3, 0));
        due(20, () -> z.look(10, 3, 0));
        due(1, () -> z.look(10, 3, 1));
        // 1 2 or 1 3: the second NUMBER tells
        due(2, () -> in("person 0;own 1 0 2;own 2 0 4;own 3 0 4;").look(3, 2, 0));
        due(ILLEGAL, () -> x.look(298, 1, 0));
        due(ILLEGAL, () -> x.look(-1, 1, 0));
        due(ILLEGAL, () -> x.look(0, 0, 0));
        due(ILLEGAL, () -> x.look(0, 4, 0));
        due(ILLEGAL, () -> x.look(0, 3, 2));
        due(ILLEGAL, () -> x.look(0, 3, -1));
    }

    private static void dice() {
        about("22 dice");
        WidowSeven x = in(TWO);
        int[][] want = {{1, 0, 1}, {3, 4, 3}, {4, 7, 4}, {6, 7, 6}, {7, 17, 7}, {14, 16, 7}, {60, 8, 15}};
        for (int[] row : want) {
            due("above of " + row[0], row[1], () -> x.dice(row[0], 0));
            due("below of " + row[0], row[2], () -> x.dice(row[0], 1));
        }
        WidowSeven y = in("person 0;own 0 0 40;own 1 0 4;own 60 0 6;");
        due(2, () -> y.dice(1, 0));
        due(1, () -> y.dice(1, 1));
        due(1, () -> y.dice(60, 0));
        due(12, () -> y.dice(60, 1));
        due(ILLEGAL, () -> x.dice(0, 0));
        due(ILLEGAL, () -> x.dice(61, 0));
        due(ILLEGAL, () -> x.dice(1, 2));
        due(ILLEGAL, () -> x.dice(1, -1));
    }

    private static void lets() {
        about("23 lets");
        WidowSeven x = new WidowSeven();
        due(1, () -> x.lets(0, 0));
        // 0 0, 0 1, 1 0, 1 1: nobody has more than 0 by any
        due(4, () -> x.lets(1, 0));
        due(7, () -> x.lets(2, 0));
        // from 3 on those of 2 give way to ones: 2 2 has 1 each, 1 would have 1 too; 3 3 has 1, 2 would have 2
        due(7, () -> x.lets(3, 0));
        due(7, () -> x.lets(20, 0));
        due(0, () -> x.lets(20, 1));
        due(0, () -> x.lets(20, 2));
        due(ILLEGAL, () -> x.lets(-1, 0));
        due(ILLEGAL, () -> x.lets(21, 0));
        due(ILLEGAL, () -> x.lets(0, 3));
        due(ILLEGAL, () -> x.lets(0, -1));
    }

    private static void tax() {
        about("24 tax");
        WidowSeven x = in("person 50;person 5;person 20;");
        int[][] want = {{0, 0, 0, 0}, {2, 0, 0, 0}, {3, 1, 1, 1}, {15, 5, 5, 5}, {16, 5, 5, 5}, {17, 6, 5, 6}, {20, 7, 5, 7},
            {45, 20, 5, 20}, {46, 21, 5, 20}, {74, 49, 5, 20}, {75, 50, 5, 20}, {9999, 50, 5, 20}};
        for (int[] row : want) {
            for (int p = 0; p < 3; p++) {
                int q = p;
                due("tax of " + row[0] + " from " + p, row[1 + p], () -> x.tax(q, row[0]));
            }
        }
        due("asked, nothing is paid", 75, () -> x.told(7));
        due(NO_SUCH, () -> x.tax(3, -1));
        due(NO_SUCH, () -> x.tax(-1, 0));
        due(ILLEGAL, () -> x.tax(0, -1));
        due(ILLEGAL, () -> x.tax(0, 10000));
    }

    // ---- promises 25 to 34 ----

    private static void dearest() {
        about("25 dearest");
        WidowSeven x = in(TWO + "own 20 0 31;");
        int[][] want = {{1, 14, 14, 15, 32}, {0, 60, 14, 15, 47}, {15, 60, 20, 15, 15}, {0, 3, 3, 4, 4}, {5, 6, 5, 0, 0},
            {7, 7, 7, 10, 10}, {60, 60, 60, 0, 0}};
        for (int[] row : want) {
            for (int what = 0; what < 3; what++) {
                int w = what;
                due(row[0] + " to " + row[1], row[2 + w], () -> x.dearest(row[0], row[1], w));
            }
        }
        due(ILLEGAL, () -> x.dearest(5, 4, 0));
        due(ILLEGAL, () -> x.dearest(-1, 4, 0));
        due(ILLEGAL, () -> x.dearest(0, 61, 0));
        due(ILLEGAL, () -> x.dearest(61, 61, 0));
        due(ILLEGAL, () -> x.dearest(0, 1, 3));
        due(ILLEGAL, () -> x.dearest(0, 1, -1));
    }

    private static void landlord() {
        about("26 landlord");
        WidowSeven x = in(TWO);
        due(1, () -> x.landlord(0));
        due(36, () -> x.landlord(1));
        WidowSeven y = in("person 1;person 1;person 1;own 1 1 5;own 2 2 5;");
        due("of alike ones the first", 1, () -> y.landlord(0));
        WidowSeven first = in("person 1;person 1;own 0 0 1;");
        due(0, () -> first.landlord(0));
        due(1, () -> first.landlord(1));
        WidowSeven z = in("person 1;own 1 0 0;");
        due(-1, () -> z.landlord(0));
        due(-1, () -> z.landlord(1));
        due(ILLEGAL, () -> x.landlord(2));
        due(ILLEGAL, () -> x.landlord(-1));
    }

    private static void common() {
        about("27 common");
        WidowSeven x = in(TWO);
        due(57, () -> x.common(0));
        due(57, () -> x.common(1));
        WidowSeven y = in(TWO + "duty 0;");
        due(57, () -> y.common(0));
        due(61, () -> y.common(1));
        law(x, "1-way");
        due("said for nothing by the law", 61, () -> x.common(0));
        due(ILLEGAL, () -> x.common(2));
        due(ILLEGAL, () -> x.common(-1));
    }

    private static void affords() {
        about("28 affords");
        WidowSeven x = in(TWO);
        due(0, () -> x.affords(1, 7, 0));
        due(1, () -> x.affords(1, 3, 1));
        due(2, () -> x.affords(1, 3, 2));
        due(8, () -> x.affords(0, 4, 0));
        due("all his coins", 5, () -> in("person 50;person 0;own 5 1 10;").affords(0, 5, 0));
        due("his own", 999, () -> x.affords(0, 7, 0));
        due("nobody's", 999, () -> x.affords(1, 5, 0));
        due("for nothing", 999, () -> x.affords(0, 1, 0));
        law(x, "used");
        work(x, "use 0 4 0;use 0 4 0;");
        // 0 and 1 are paid: 49 are left, 2 + 3 + .. + 9 is 44, and 10 more are too many
        due(49, () -> x.person(0, 0));
        due(8, () -> x.affords(0, 4, 0));
        due("asked, nothing was used", 2, () -> x.number(4, 2));
        law(x, "most[6-used*2,used-900]");
        due("dear at first, free then, dear again", 909, () -> x.affords(0, 14, 0));
        due(NO_SUCH, () -> x.affords(2, 0, 0));
        due(NO_SUCH, () -> x.affords(-1, 0, 0));
        due(NO_SUCH, () -> x.affords(0, 61, 9));
        due(NO_SUCH, () -> x.affords(0, -1, 0));
        due(ILLEGAL, () -> x.affords(0, 0, 3));
        due(ILLEGAL, () -> x.affords(0, 0, -1));
    }

    private static void worth() {
        about("29 worth");
        WidowSeven x = in(TWO + "person 9;");
        due(282, () -> x.worth(0));
        due(363, () -> x.worth(1));
        due(0, () -> x.worth(2));
        due(11 + 21, () -> in("person 0;own 0 0 1;own 60 0 2;").worth(0));
        due(NO_SUCH, () -> x.worth(3));
        due(NO_SUCH, () -> x.worth(-1));
    }

    private static void run() {
        about("30 run");
        WidowSeven x = in("person 1;person 1;person 1;own 0 0 1;own 1 0 1;own 3 0 1;own 4 0 1;own 58 1 1;own 59 1 1;own 60 1 1;own 5 1 1;");
        due(2, () -> x.run(0, 0));
        due(0, () -> x.run(0, 1));
        due(3, () -> x.run(1, 0));
        due(58, () -> x.run(1, 1));
        due(0, () -> x.run(2, 0));
        due(-1, () -> x.run(2, 1));
        due(NO_SUCH, () -> x.run(3, 9));
        due(NO_SUCH, () -> x.run(-1, 0));
        due(ILLEGAL, () -> x.run(0, 2));
        due(ILLEGAL, () -> x.run(0, -1));
    }

    private static void cheapest() {
        about("31 cheapest");
        WidowSeven x = in(TWO);
        due(2, () -> x.cheapest(7, 0));
        due(6, () -> x.cheapest(7, 1));
        due(0, () -> x.cheapest(5, 0));
        due(0, () -> x.cheapest(5, 1));
        law(x, "(way-1)*(way-1)+3");
        due(1, () -> x.cheapest(7, 0));
        due(3, () -> x.cheapest(7, 1));
        law(x, "9-way%2*0-way/1%2*0+way/2*0");
        due("alike", 0, () -> x.cheapest(7, 0));
        due(NO_SUCH, () -> x.cheapest(61, 2));
        due(NO_SUCH, () -> x.cheapest(-1, 0));
        due(ILLEGAL, () -> x.cheapest(0, 2));
        due(ILLEGAL, () -> x.cheapest(0, -1));
    }

    private static void primes() {
        about("32 primes");
        WidowSeven x = in("person 1;person 1;own 0 0 1;own 1 0 1;own 2 0 1;own 3 0 1;own 4 0 1;own 57 0 1;own 59 0 1;own 60 0 1;");
        due(3, () -> x.primes(0));
        due(0, () -> x.primes(1));
        due(NO_SUCH, () -> x.primes(2));
        due(NO_SUCH, () -> x.primes(-1));
    }

    private static void poorest() {
        about("33 poorest");
        WidowSeven x = in("person 7;person 3;person 3;");
        due(1, () -> x.poorest(0));
        due(3, () -> x.poorest(1));
        WidowSeven y = new WidowSeven();
        due(-1, () -> y.poorest(0));
        due(-1, () -> y.poorest(1));
        due(ILLEGAL, () -> x.poorest(2));
        due(ILLEGAL, () -> y.poorest(-1));
    }

    private static void sayable() {
        about("34 sayable");
        WidowSeven x = in(TWO);
        due(57, () -> x.sayable(0, 0));
        due(60, () -> x.sayable(0, 1));
        due(61, () -> x.sayable(1, 0));
        WidowSeven y = allButFree("", 1);
        law(y, "20");
        // 1; 0 and 2; 3; 4; 5 and 6
        due(1, () -> y.sayable(1, 0));
        due(1, () -> y.sayable(1, 1));
        due(3, () -> y.sayable(2, 0));
        due(2, () -> y.sayable(3, 1));
        due(4, () -> y.sayable(5, 0));
        due(61, () -> y.sayable(99, 0));
        WidowSeven z = allButFree("");
        law(z, "9");
        due(0, () -> z.sayable(8, 0));
        due(-1, () -> z.sayable(8, 1));
        due(61, () -> z.sayable(9, 0));
        due(ILLEGAL, () -> x.sayable(-1, 0));
        due(ILLEGAL, () -> x.sayable(100, 0));
        due(ILLEGAL, () -> x.sayable(0, 2));
        due(ILLEGAL, () -> x.sayable(0, -1));
    }

    // ---- promises 35 to 40 ----

    private static int seed;

    private static int draw(int by) {
        seed = seed * 1103515245 + 12345;
        return ((seed >> 16) & 0x7fff) % by;
    }

    private static void year() {
        about("35 year");
        // by a LAW of 1 a day (0 on the first), everybody else's costs as many coins as the DAY has
        WidowSeven x = in("person 30;person 30;person 3;" + "own 1 0 1;own 2 0 1;own 3 1 1;own 4 1 1;own 5 2 1;own 6 2 1;"
            + "own 10 0 1;own 20 0 1;own 30 1 1;own 40 1 1;own 50 2 1;own 60 2 1;own 0 2 1;");
        law(x, "day + used + way");
        for (int uses : new int[] {1, 7, 8, 9, 40, 96}) {
            for (int start : new int[] {0, 1, -5, 2147483647, 77777}) {
                int[] want = lived(x, start, uses);
                for (int what = 0; what < 4; what++) {
                    int w = what;
                    due("year " + start + " " + uses + " " + w, want[w], () -> x.year(start, uses, w));
                }
            }
        }
        due("nothing stays changed", 63, () -> x.told(7));
        due(0, () -> x.told(1));
        due(0, () -> x.told(4));
        // beyond DAY 900
        WidowSeven y = in("person 40;person 40;");
        for (int i = 0; i < 5; i++) {
            work(y, "again 60[day;day;day;];");
        }
        work(y, "again 30[sell 1 0 0;sell 1 1 0;];");
        StringBuilder all = new StringBuilder();
        for (int n = 0; n < 12; n++) {
            all.append("sell ").append(n).append(" 0 0;");
        }
        work(y, all.toString());
        law(y, "day-899");
        for (int uses : new int[] {8, 16, 96}) {
            int[] want = lived(y, 4711, uses);
            due("done beyond 900", want[0], () -> y.year(4711, uses, 0));
            due("richest beyond 900", want[2], () -> y.year(4711, uses, 2));
        }
        WidowSeven nobody = new WidowSeven();
        for (int what = 0; what < 4; what++) {
            int w = what;
            due(0, () -> nobody.year(1, 96, w));
        }
        due(ILLEGAL, () -> x.year(0, 0, 0));
        due(ILLEGAL, () -> x.year(0, 97, 0));
        due(ILLEGAL, () -> x.year(0, 1, 4));
        due(ILLEGAL, () -> x.year(0, 1, -1));
    }

    /** The YEAR told by single calls: what is paid, by would(), on coins that are kept here. */
    private static int[] lived(WidowSeven x, int start, int uses) {
        int persons = x.told(0);
        int[] coins = new int[persons];
        for (int p = 0; p < persons; p++) {
            coins[p] = x.person(p, 0);
        }
        String laws = x.told(1) == 900 ? "day-899" : "day + used + way";
        int[] used = new int[61];
        boolean[] ever = new boolean[61];
        int day = x.told(1);
        int done = 0;
        seed = start;
        for (int i = 1; i <= uses; i++) {
            int p = draw(persons);
            int n = draw(61);
            int way = draw(3);
            int owner = x.number(n, 0);
            int fare = laws.equals("day-899") ? day - 899 : day + used[n] + way;
            fare = owner < 0 || owner == p ? 0 : Math.min(99, fare);
            if (coins[p] >= fare) {
                coins[p] -= fare;
                if (fare > 0) {
                    coins[owner] += fare;
                }
                used[n]++;
                ever[n] = true;
                done++;
            }
            if (i % 8 == 0) {
                day++;
                used = new int[61];
            }
        }
        int all = 0;
        int most = 0;
        int numbers = 0;
        for (int c : coins) {
            all += c;
            most = Math.max(most, c);
        }
        for (boolean e : ever) {
            numbers += e ? 1 : 0;
        }
        return new int[] {done, all, most, numbers};
    }

    private static void span() {
        about("36 span");
        WidowSeven x = in("person 9;person 30;" + "own 1 0 9;own 2 0 9;own 3 1 9;own 4 1 9;own 5 1 9;own 6 1 9;"
            + "own 7 1 9;own 8 1 9;own 9 1 9;own 10 1 9;own 11 1 9;own 12 1 9;own 13 1 9;own 14 1 9;own 15 1 9;");
        for (int start : new int[] {0, 5, -9, 2147483640}) {
            for (int many : new int[] {1, 20}) {
                for (int uses : new int[] {1, 12, 96}) {
                    int fewest = 999;
                    int most = -1;
                    int all = 0;
                    for (int i = 0; i < many; i++) {
                        int done = x.year(start + i, uses, 0);
                        fewest = Math.min(fewest, done);
                        most = Math.max(most, done);
                        all += done == uses ? 1 : 0;
                    }
                    int[] want = {fewest, most, all};
                    for (int what = 0; what < 3; what++) {
                        int w = what;
                        due("span " + start + " " + many + " " + uses + " " + w, want[w],
                            () -> x.span(start, many, uses, w));
                    }
                }
            }
        }
        WidowSeven nobody = new WidowSeven();
        due(0, () -> nobody.span(1, 20, 9, 0));
        due(0, () -> nobody.span(1, 20, 9, 1));
        due(20, () -> nobody.span(1, 20, 9, 2));
        due(ILLEGAL, () -> x.span(0, 0, 1, 0));
        due(ILLEGAL, () -> x.span(0, 21, 1, 0));
        due(ILLEGAL, () -> x.span(0, 1, 0, 0));
        due(ILLEGAL, () -> x.span(0, 1, 97, 0));
        due(ILLEGAL, () -> x.span(0, 1, 1, 3));
        due(ILLEGAL, () -> x.span(0, 1, 1, -1));
    }

    private static void image() {
        about("37 image");
        WidowSeven x = in(TWO);
        due(1, x::image);
        due(2, x::image);
        due(3, x::image);
        due(-1, x::image);
        due(3, () -> x.count(0));
        due(2, x::restore);
        due(3, x::image);
    }

    private static void restore() {
        about("38 restore");
        WidowSeven x = in(TWO);
        due(-1, x::restore);
        work(x, "day;");
        due(1, x::image);
        work(x, "sell 7 1 3;rent 7 1;day;use 0 7 0;use 1 14 0;rent 0 1;");
        due(2, x::image);
        due(1, x::undo);
        due(0, x::undo);
        work(x, "sell 3 1 0;");
        work(x, "sell 3 0 0;");
        work(x, "sell 3 1 0;rent 60 1;");
        law(x, "5");
        book(x, "7 1;");
        due(1, () -> x.told(6));
        due(1, x::restore);
        due(0, () -> x.told(6));
        due(2, () -> x.told(1));
        due(1, () -> x.number(7, 0));
        due(1, () -> x.number(7, 1));
        due(3, () -> x.person(1, 0));
        due(1, () -> x.number(7, 2));
        due(0, () -> x.number(3, 0));
        due("the WORKS that can be undone come back", 2, () -> x.count(2));
        due("the LAW is in no IMAGE", 5, () -> x.fare(7, 0));
        due("nor is the BOOK", 1, () -> x.told(5));
        due(1, x::undo);
        due(1, () -> x.told(1));
        due(0, () -> x.number(7, 0));
        due(0, x::undo);
        due(0, () -> x.told(1));
        due(0, x::restore);
        due(1, () -> x.told(1));
        due(1, () -> x.count(2));
        due(0, () -> x.number(7, 0));
        due(5, () -> x.person(1, 0));
        due(-1, x::restore);
        due("a restore that is none lets all stay", 1, () -> x.told(1));
        // two IMAGES share what can be undone; to undo behind the one leaves the other as it was
        WidowSeven y = in(TWO);
        work(y, "day;");
        y.image();
        y.image();
        y.undo();
        work(y, "sell 9 0 0;");
        work(y, "sell 9 1 0;");
        due(1, y::restore);
        due(0, y::undo);
        work(y, "sell 9 0 0;");
        due(0, y::restore);
        due(-1, () -> y.number(9, 0));
        due(1, () -> y.told(1));
        due(0, y::undo);
        due(0, () -> y.told(1));
    }

    private static void status() {
        about("39 status");
        WidowSeven x = in(TWO);
        x.image();
        answer(() -> x.person(2, 9));
        answer(() -> x.number(61, 0));
        answer(() -> x.told(9));
        due(2, () -> x.status(0));
        due(1, () -> x.status(1));
        x.restore();
        due("no IMAGE keeps it", 2, () -> x.status(0));
        answer(() -> x.work(1));
        due(2, () -> x.status(1));
        land(x, "");
        due("nor does a LAND", 2, () -> x.status(1));
        due(-1, () -> x.status(2));
        due(-1, () -> x.status(-1));
        due("what is answered is not refused", 2, () -> x.status(1));
    }

    private static void count() {
        about("40 count");
        WidowSeven x = in(TWO);
        x.image();
        x.image();
        work(x, "day;");
        work(x, "day;");
        work(x, "day;");
        work(x, "?");
        put(x, "abc");
        due(2, () -> x.count(0));
        due(20, () -> x.count(1));
        due(3, () -> x.count(2));
        due(-1, () -> x.count(3));
        due(-1, () -> x.count(-1));
        due(0, () -> x.status(1));
    }
}
