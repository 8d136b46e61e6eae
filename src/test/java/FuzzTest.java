import java.util.NoSuchElementException;
import java.util.Random;
import java.util.function.IntSupplier;

/** Random runs of 512 calls: WidowSeven must answer each as the Oracle, a second reading of the document, does. */
public final class FuzzTest {
    private static final int RUNS = 400;
    private static final int CALLS = 512;

    private final Random random;
    private final int run;
    private final WidowSeven x = new WidowSeven();
    private final Oracle o = new Oracle();
    private int calls;
    private int wrong;

    private FuzzTest(int run) {
        this.run = run;
        this.random = new Random(run);
    }

    public static void main(String[] args) {
        int runs = args.length > 1 ? Integer.parseInt(args[1]) : RUNS;
        int from = args.length > 2 ? Integer.parseInt(args[2]) : 0;
        int wrong = 0;
        for (int run = from; run < from + runs && wrong < 20; run++) {
            wrong += new FuzzTest(run).go();
        }
        System.out.println(wrong == 0 ? "fuzz: " + runs + " runs agree" : "fuzz: " + wrong + " answers differ");
        if (wrong != 0) {
            System.exit(1);
        }
    }

    /** What a run is about: all calls from an empty land on, dear speech, many WORKS, or all of these. */
    private int go() {
        int mood = run % 4;
        if (mood > 0) {
            tell("land", mood == 1 ? denseLandText() : landText());
            tell("law", lawText());
        }
        while (calls < CALLS && wrong == 0) {
            if (mood == 1 && random.nextInt(40) == 0) {
                tell("land", denseLandText());
                tell("law", lawText());
            }
            if (mood == 2 && random.nextInt(4) == 0) {
                tell("work", workText());
            }
            if (mood == 1 && random.nextInt(4) > 0) {
                askSpeech();
            } else {
                turn(mood == 0 ? 0 : 3);
            }
        }
        return wrong;
    }

    private void turn(int from) {
        int pick = from + random.nextInt(100 - from);
        if (pick < 3 || pick < 6 && from > 0 && random.nextInt(12) == 0) {
            tell("land", landText());
        } else if (pick < 6) {
            tell("law", lawText());
        } else if (pick < 13) {
            tell("work", workText());
        } else if (pick < 16) {
            tell("book", bookText());
        } else if (pick < 18) {
            due("undo()", x::undo, o::undo);
        } else if (pick < 20) {
            due("image()", x::image, o::image);
        } else if (pick < 22) {
            due("restore()", x::restore, o::restore);
        } else if (pick < 30) {
            lookAround();
        } else {
            ask();
        }
    }

    private static int answer(IntSupplier call) {
        try {
            return call.getAsInt();
        } catch (NoSuchElementException e) {
            return Integer.MIN_VALUE;
        } catch (IllegalArgumentException e) {
            return Integer.MIN_VALUE + 1;
        }
    }

    private void due(String call, IntSupplier mine, IntSupplier theirs) {
        calls++;
        if (calls > CALLS) {
            return;
        }
        int got = answer(mine);
        int want = answer(theirs);
        if (got != want) {
            wrong++;
            System.out.println("run " + run + ", call " + calls + ": " + call + " answered " + got + ", due is " + want
                + "; law " + o.law);
        }
    }

    // ---- texts ----

    private void tell(String what, String text) {
        String told = random.nextInt(5) == 0 ? spoiled(text) : text;
        int n = Math.min(told.length(), 600);
        for (int i = 0; i < n; i += 20) {
            int[] f = new int[5];
            for (int j = 0; j < 20; j++) {
                int c = i + j < n ? told.charAt(i + j) : random.nextInt(256);
                f[j / 4] = f[j / 4] << 8 | c;
            }
            due("feed", () -> x.feed(f[0], f[1], f[2], f[3], f[4]), () -> o.feed(f));
        }
        int length = random.nextInt(25) == 0 ? random.nextInt(700) - 20 : n;
        String call = what + "(" + length + ") of " + told;
        switch (what) {
            case "land" -> due(call, () -> x.land(length), () -> o.land(length));
            case "law" -> due(call, () -> x.law(length), () -> o.law(length));
            case "work" -> due(call, () -> x.work(length), () -> o.work(length));
            default -> due(call, () -> x.book(length), () -> o.book(length));
        }
        due("fault()", x::fault, o::fault);
        due("count(1)", () -> x.count(1), () -> o.count(1));
    }

    private String spoiled(String text) {
        StringBuilder s = new StringBuilder(text);
        String signs = "0123456789;[](),+-*/% aeosr$A{~";
        for (int i = random.nextInt(3); i >= 0; i--) {
            int at = random.nextInt(s.length() + 1);
            char c = random.nextInt(20) == 0 ? (char) random.nextInt(256) : signs.charAt(random.nextInt(signs.length()));
            int how = random.nextInt(4);
            if (how == 0 || at == s.length()) {
                s.insert(at, c);
            } else if (how == 1) {
                s.deleteCharAt(at);
            } else if (how == 2) {
                s.setCharAt(at, c);
            } else {
                s.setLength(at);
            }
        }
        return s.toString();
    }

    private String blanks() {
        return random.nextInt(12) == 0 ? "  " : "";
    }

    /** Mostly 0 to most, sometimes one more, or written at length. */
    private String figure(int most) {
        int value = random.nextInt(150) == 0 ? most + 1 : random.nextInt(Math.max(1, most + 1));
        return (random.nextInt(60) == 0 ? "000" : "") + (random.nextInt(900) == 0 ? "99999999999" : "") + value;
    }

    private String landText() {
        int persons = random.nextInt(20) == 0 ? 0 : 1 + random.nextInt(random.nextInt(20) == 0 ? 8 : 6);
        StringBuilder s = new StringBuilder();
        int rich = random.nextInt(3) == 0 ? 999 : 60;
        for (int p = 0; p < persons; p++) {
            s.append(blanks()).append("person ").append(figure(rich)).append(blanks()).append(';');
        }
        if (random.nextBoolean()) {
            s.append("duty ").append(figure(random.nextInt(3) == 0 ? 20 : 2)).append(";");
        }
        int owned = persons == 0 ? 0 : random.nextInt(random.nextInt(4) == 0 ? 62 : 45);
        int low = random.nextInt(30);
        boolean zero = random.nextInt(3) == 0;
        for (int i = 0; i < owned && s.length() < 588; i++) {
            int number = random.nextInt(4) == 0 ? random.nextInt(61) : (low + i) % 61;
            s.append(blanks()).append("own ").append(number).append(' ').append(figure(Math.min(persons, 6) - 1));
            s.append(' ').append(zero ? figure(3) : figure(40)).append(';').append(blanks());
        }
        return s.toString();
    }

    /** Nearly all NUMBERS are somebody's, so that it takes long to say one cheaply. */
    private String denseLandText() {
        int persons = 1 + random.nextInt(4);
        StringBuilder s = new StringBuilder();
        for (int p = 0; p < persons; p++) {
            s.append("person").append(random.nextInt(100)).append(';');
        }
        int clauses = persons;
        if (random.nextInt(5) > 0) {
            s.append("duty").append(random.nextInt(random.nextInt(2) * 6 + 1)).append(';');
            clauses++;
        }
        int skip = random.nextInt(61);
        int every = 1 + random.nextInt(61);
        int high = random.nextBoolean() ? 9 : 40;
        for (int n = 60; n >= 0 && clauses < 60 && s.length() < 588; n--) {
            if ((n + skip) % every != 0 || every == 1 && random.nextInt(9) > 0) {
                s.append("own").append(n).append(' ').append(random.nextInt(persons)).append(' ');
                s.append(random.nextInt(30) == 0 ? 0 : 1 + random.nextInt(high)).append(';');
                clauses++;
            }
        }
        return s.toString();
    }

    private String lawText() {
        String[] written = {
            "rent", "rent/2+used", "rent + parts * used - way", "(number % 7) * way", "least[rent,used*3]+day%5",
            "most[rent - 9*used , 0]", "rent*rent*rent*rent*rent*rent", "0", "99", "(rent-30)/(way-1)",
            "(rent-30)%(owner-2)", "1", "rent/(used%3)", "number - owner*7", "day", "parts",
            "(rent*number)%37+1", "rent*(number%5)+owner", "number%4*9", "rent+5", "number*number%50"};
        if (random.nextInt(3) == 0 || run % 4 == 1 && random.nextBoolean()) {
            return written[random.nextInt(written.length)];
        }
        if (random.nextInt(12) == 0) {
            return deepLawText(5 + random.nextInt(3));
        }
        String e = expression(random.nextInt(5));
        for (int i = 0; i < 20 && e.length() > 150; i++) {
            e = expression(random.nextInt(3));
        }
        return e + blanks();
    }

    private String deepLawText(int deep) {
        StringBuilder s = new StringBuilder();
        StringBuilder behind = new StringBuilder();
        for (int i = 0; i < deep; i++) {
            int pick = random.nextInt(4);
            s.append(pick < 2 ? "(" : pick == 2 ? "least[way," : "most [used+1*");
            behind.insert(0, pick < 2 ? ")" : pick == 2 ? "]" : ",rent ] ");
        }
        return s + "number-7" + behind;
    }

    private String expression(int depth) {
        StringBuilder s = new StringBuilder(unit(depth));
        for (int i = random.nextInt(3); i > 0; i--) {
            s.append(blanks()).append("+-*/%".charAt(random.nextInt(5))).append(unit(depth));
        }
        return s.toString();
    }

    private String unit(int depth) {
        String[] facts = {"number", "rent", "way", "owner", "parts", "used", "day"};
        int pick = random.nextInt(depth > 0 ? 14 : 9);
        if (pick < 2) {
            return blanks() + figure(random.nextBoolean() ? 999 : 9);
        }
        if (pick < 9) {
            return blanks() + facts[random.nextInt(7)];
        }
        if (pick < 12) {
            return blanks() + "(" + expression(depth - 1) + blanks() + ")";
        }
        return (pick == 12 ? "least" : "most") + blanks() + "[" + expression(depth - 1) + "," + expression(depth - 1) + "]";
    }

    private String workText() {
        StringBuilder s = new StringBuilder();
        if (random.nextInt(12) == 0) {
            int deep = 4 + random.nextInt(4);
            s.append("again 2[".repeat(deep)).append("day;").append("];".repeat(deep));
            return s.toString();
        }
        if (random.nextInt(10) == 0) {
            return "again 60[day;day;];again 60[day;day;];";
        }
        addSteps(s, 1 + random.nextInt(8), 3);
        return s.length() > 150 && random.nextInt(4) > 0 ? "day;" : s.toString();
    }

    private void addSteps(StringBuilder s, int many, int depth) {
        int persons = Math.max(1, o.told(0));
        for (int i = 0; i < many && s.length() < 130; i++) {
            int pick = random.nextInt(16);
            s.append(blanks());
            if (pick < 7) {
                s.append("use ").append(figure(persons - 1)).append(' ').append(figure(60)).append(' ').append(figure(2));
            } else if (pick < 10) {
                s.append("sell ").append(figure(60)).append(' ').append(figure(persons - 1)).append(' ')
                    .append(figure(random.nextBoolean() ? 999 : 20));
            } else if (pick < 13) {
                s.append("rent ").append(figure(60)).append(' ').append(figure(random.nextInt(3) == 0 ? 0 : 40));
            } else if (pick == 13 || depth == 0) {
                s.append("day");
            } else {
                s.append("again ").append(figure(random.nextBoolean() ? 60 : 4)).append(blanks()).append('[');
                addSteps(s, random.nextInt(3), depth - 1);
                s.append(']');
            }
            s.append(blanks()).append(';');
        }
    }

    private String bookText() {
        StringBuilder s = new StringBuilder();
        int lines = random.nextInt(random.nextInt(8) == 0 ? 11 : 9);
        int first = random.nextInt(61);
        for (int i = 0; i < lines; i++) {
            int number = random.nextInt(30) == 0 ? random.nextInt(62) : (first + 7 * i) % 61;
            s.append(blanks()).append(number).append(' ').append(1 + random.nextInt(random.nextInt(30) == 0 ? 31 : 30));
            s.append(';');
        }
        return s.toString();
    }

    // ---- questions ----

    private void lookAround() {
        int person = among(0, Math.max(0, o.told(0) - 1));
        int number = among(0, 60);
        for (int what = 0; what < 8; what++) {
            int w = what;
            due("told(" + w + ")", () -> x.told(w), () -> o.told(w));
        }
        for (int what = 0; what < 5; what++) {
            int w = what;
            due("person(" + person + ", " + w + ")", () -> x.person(person, w), () -> o.person(person, w));
            due("number(" + number + ", " + w + ")", () -> x.number(number, w), () -> o.number(number, w));
        }
        int w = among(0, 1);
        due("status(" + w + ")", () -> x.status(w), () -> o.status(w));
        int c = among(0, 2);
        due("count(" + c + ")", () -> x.count(c), () -> o.count(c));
    }

    /** Mostly low to high; at times just outside, or far outside. */
    private int among(int low, int high) {
        int pick = random.nextInt(80);
        if (pick == 0) {
            return low - 1;
        }
        if (pick == 1) {
            return high + 1;
        }
        if (pick == 2) {
            return random.nextInt();
        }
        if (pick < 8) {
            return random.nextBoolean() ? low : high;
        }
        return low + random.nextInt(high - low + 1);
    }

    private void ask() {
        int p = among(0, Math.max(0, o.told(0) - 1));
        int n = among(0, 60);
        int m = among(0, 60);
        int way = among(0, 2);
        int one = among(0, 1);
        int two = among(0, 2);
        switch (random.nextInt(24)) {
            case 0 -> due("fare(" + n + ", " + way + ")", () -> x.fare(n, way), () -> o.fare(n, way));
            case 1 -> {
                int[] a = {among(0, 40), among(0, 5), among(0, 999), among(0, 900)};
                due("would(" + n + ", ..)", () -> x.would(n, a[0], way, a[1], a[2], a[3]),
                    () -> o.would(n, a[0], way, a[1], a[2], a[3]));
            }
            case 2 -> due("cost(" + n + ")", () -> x.cost(n), () -> o.cost(n));
            case 3 -> due("saying(" + n + ", " + two + ")", () -> x.saying(n, two), () -> o.saying(n, two));
            case 4 -> due("leaves(" + n + ")", () -> x.leaves(n), () -> o.leaves(n));
            case 5 -> due("out(" + n + ")", () -> x.out(n), () -> o.out(n));
            case 6 -> due("round(" + n + ", " + m + ", " + two + ")", () -> x.round(n, m, two), () -> o.round(n, m, two));
            case 7 -> {
                int c = random.nextInt(3) == 0 ? among(0, 9999) : among(0, 900);
                due("buy(" + c + ", " + one + ")", () -> x.buy(c, one), () -> o.buy(c, one));
            }
            case 8 -> askRows(one);
            case 9 -> {
                int f = among(1, 60);
                due("dice(" + f + ", " + one + ")", () -> x.dice(f, one), () -> o.dice(f, one));
            }
            case 10 -> {
                int k = among(0, 20);
                due("lets(" + k + ", " + two + ")", () -> x.lets(k, two), () -> o.lets(k, two));
            }
            case 11 -> {
                int c = random.nextBoolean() ? among(0, 9999) : among(0, 300);
                due("tax(" + p + ", " + c + ")", () -> x.tax(p, c), () -> o.tax(p, c));
            }
            case 12 -> due("dearest(" + n + ", " + m + ", " + two + ")", () -> x.dearest(n, m, two),
                () -> o.dearest(n, m, two));
            case 13 -> due("landlord(" + one + ")", () -> x.landlord(one), () -> o.landlord(one));
            case 14 -> due("common(" + one + ")", () -> x.common(one), () -> o.common(one));
            case 15 -> due("affords(" + p + ", " + n + ", " + way + ")", () -> x.affords(p, n, way),
                () -> o.affords(p, n, way));
            case 16 -> due("worth(" + p + ")", () -> x.worth(p), () -> o.worth(p));
            case 17 -> due("run(" + p + ", " + one + ")", () -> x.run(p, one), () -> o.run(p, one));
            case 18 -> due("cheapest(" + n + ", " + one + ")", () -> x.cheapest(n, one), () -> o.cheapest(n, one));
            case 19 -> due("primes(" + p + ")", () -> x.primes(p), () -> o.primes(p));
            case 20 -> due("poorest(" + one + ")", () -> x.poorest(one), () -> o.poorest(one));
            case 21 -> {
                int c = random.nextBoolean() ? among(0, 99) : among(0, 9);
                due("sayable(" + c + ", " + one + ")", () -> x.sayable(c, one), () -> o.sayable(c, one));
            }
            case 22 -> {
                int seed = random.nextInt();
                int uses = among(1, 96);
                int what = among(0, 3);
                due("year(" + seed + ", " + uses + ", " + what + ")", () -> x.year(seed, uses, what),
                    () -> o.year(seed, uses, what));
            }
            default -> {
                int seed = random.nextInt(9) == 0 ? Integer.MAX_VALUE - 2 : random.nextInt();
                int uses = among(1, 96);
                int many = among(1, 20);
                due("span(" + seed + ", " + many + ", " + uses + ", " + two + ")",
                    () -> x.span(seed, many, uses, two), () -> o.span(seed, many, uses, two));
            }
        }
    }

    private void askSpeech() {
        int n = random.nextInt(61);
        due("cost(" + n + ")", () -> x.cost(n), () -> o.cost(n));
        due("leaves(" + n + ")", () -> x.leaves(n), () -> o.leaves(n));
        due("saying(" + n + ", 0)", () -> x.saying(n, 0), () -> o.saying(n, 0));
        due("saying(" + n + ", 1)", () -> x.saying(n, 1), () -> o.saying(n, 1));
        due("saying(" + n + ", 2)", () -> x.saying(n, 2), () -> o.saying(n, 2));
        due("out(" + n + ")", () -> x.out(n), () -> o.out(n));
    }

    private void askRows(int what) {
        int k = among(1, 3);
        int v = random.nextInt(3) == 0 ? among(0, 297) : among(0, 25 * Math.max(1, Math.min(3, k)));
        if (random.nextBoolean()) {
            due("meant(" + v + ", " + k + ", " + what + ")", () -> x.meant(v, k, what), () -> o.meant(v, k, what));
        } else {
            due("look(" + v + ", " + k + ", " + what + ")", () -> x.look(v, k, what), () -> o.look(v, k, what));
        }
    }
}
