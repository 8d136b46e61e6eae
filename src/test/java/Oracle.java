import java.util.ArrayDeque;
import java.util.ArrayList;
import java.util.Arrays;
import java.util.Deque;
import java.util.HashSet;
import java.util.List;
import java.util.NoSuchElementException;
import java.util.Set;

/**
 * A second reading of the document, written for plainness alone and by other ways than WidowSeven's:
 * texts are cut into tokens first, the LAW is read anew for every FARE, the least of all is found by
 * trying everything until nothing gets better. The fuzz test holds the two against each other.
 */
final class Oracle {
    private static final int FAR = 1 << 28;

    /** What WORK changes. */
    static final class World {
        int[] owner = new int[61];
        int[] rent = new int[61];
        int[] used = new int[61];
        List<Integer> coins = new ArrayList<>();
        int day;

        World() {
            Arrays.fill(owner, -1);
        }

        World copy() {
            World w = new World();
            w.owner = owner.clone();
            w.rent = rent.clone();
            w.used = used.clone();
            w.coins = new ArrayList<>(coins);
            w.day = day;
            return w;
        }
    }

    record Token(char kind, String text, int at) { }

    record Image(World world, List<World> works) { }

    static final class Fault extends RuntimeException {
        private static final long serialVersionUID = 1L;
        final int kind;
        final int at;

        Fault(int kind, int at) {
            this.kind = kind;
            this.at = at;
        }
    }

    World w = new World();
    int duty = 2;
    String law = "rent / (1 + way)";
    List<int[]> book = new ArrayList<>();
    String tape = "";
    int fault = -1;
    Deque<World> works = new ArrayDeque<>();
    Deque<Image> images = new ArrayDeque<>();
    int refused;
    int noSuch;
    int illegal;

    // ---- refusing ----

    private void thing(boolean there) {
        if (!there) {
            noSuch++;
            throw new NoSuchElementException();
        }
    }

    private void arg(boolean right) {
        if (!right) {
            illegal++;
            throw new IllegalArgumentException();
        }
    }

    private boolean isPerson(int p) {
        return p >= 0 && p < w.coins.size();
    }

    private static boolean in(int x, int low, int high) {
        return low <= x && x <= high;
    }

    // ---- texts ----

    int feed(int... fives) {
        if (tape.length() + 20 > 600) {
            return -1;
        }
        StringBuilder more = new StringBuilder(tape);
        for (int five : fives) {
            for (int i = 0; i < 4; i++) {
                more.append((char) ((five >> (24 - 8 * i)) & 0xff));
            }
        }
        tape = more.toString();
        return tape.length();
    }

    private String take(int n, int most) {
        arg(in(n, 0, Math.min(tape.length(), most)));
        String text = tape.substring(0, n);
        tape = "";
        fault = -1;
        return text;
    }

    private int failed(Fault f) {
        fault = f.at;
        return f.kind - 10;
    }

    private static List<Token> tokens(String text) {
        List<Token> all = new ArrayList<>();
        int i = 0;
        while (i < text.length()) {
            char c = text.charAt(i);
            int from = i++;
            if (c == ' ') {
                continue;
            }
            if (c >= '0' && c <= '9') {
                while (i < text.length() && text.charAt(i) >= '0' && text.charAt(i) <= '9') {
                    i++;
                }
                all.add(new Token('0', text.substring(from, i), from));
            } else if (c >= 'a' && c <= 'z') {
                while (i < text.length() && text.charAt(i) >= 'a' && text.charAt(i) <= 'z') {
                    i++;
                }
                all.add(new Token('a', text.substring(from, i), from));
            } else {
                all.add(new Token(c, String.valueOf(c), from));
            }
        }
        all.add(new Token('$', "", text.length()));
        return all;
    }

    /** Tokens with a place among them. '$' is the end; a sign '$' in a text is a token of kind '$' too, with a text. */
    private static final class Stream {
        final List<Token> all;
        int i;

        Stream(String text) {
            all = tokens(text);
        }

        Token next() {
            return all.get(i);
        }

        boolean isEnd() {
            return i == all.size() - 1;
        }

        boolean is(String text) {
            return !isEnd() && next().text.equals(text);
        }

        void want(String text) {
            if (!is(text)) {
                throw new Fault(1, next().at);
            }
            i++;
        }

        int want(int low, int high) {
            Token t = next();
            if (isEnd() || t.kind != '0') {
                throw new Fault(1, t.at);
            }
            java.math.BigInteger value = new java.math.BigInteger(t.text);
            if (value.compareTo(java.math.BigInteger.valueOf(low)) < 0
                    || value.compareTo(java.math.BigInteger.valueOf(high)) > 0) {
                throw new Fault(2, t.at);
            }
            i++;
            return value.intValueExact();
        }
    }

    int land(int n) {
        String text = take(n, 600);
        World fresh = new World();
        int freshDuty = 2;
        try {
            Stream s = new Stream(text);
            int clauses = 0;
            while (!s.isEnd()) {
                Token t = s.next();
                if (!List.of("person", "own", "duty").contains(t.text)) {
                    throw new Fault(1, t.at);
                }
                if (clauses == 60 || t.text.equals("person") && fresh.coins.size() == 6) {
                    throw new Fault(3, t.at);
                }
                clauses++;
                s.i++;
                if (t.text.equals("person")) {
                    fresh.coins.add(s.want(0, 999));
                } else if (t.text.equals("duty")) {
                    freshDuty = s.want(0, 20);
                } else {
                    int number = s.want(0, 60);
                    fresh.owner[number] = s.want(0, fresh.coins.size() - 1);
                    fresh.rent[number] = s.want(0, 40);
                }
                s.want(";");
            }
        } catch (Fault f) {
            return failed(f);
        }
        w = fresh;
        duty = freshDuty;
        law = "rent / (1 + way)";
        book = new ArrayList<>();
        works.clear();
        images.clear();
        refused = 0;
        return w.coins.size();
    }

    int law(int n) {
        String text = take(n, 150);
        try {
            Stream s = new Stream(text);
            sum(s, new int[7], 0);
            if (!s.isEnd()) {
                throw new Fault(1, s.next().at);
            }
        } catch (Fault f) {
            return failed(f);
        }
        law = text;
        return 1;
    }

    private static int sum(Stream s, int[] facts, int open) {
        int value = product(s, facts, open);
        while (s.is("+") || s.is("-")) {
            boolean plus = s.is("+");
            s.i++;
            int more = product(s, facts, open);
            value = plus ? value + more : value - more;
        }
        return value;
    }

    private static int product(Stream s, int[] facts, int open) {
        int value = unit(s, facts, open);
        while (s.is("*") || s.is("/") || s.is("%")) {
            String by = s.next().text;
            s.i++;
            int other = unit(s, facts, open);
            long exact = value;
            if (by.equals("*")) {
                value = (int) (exact * other);
            } else if (other == 0) {
                value = 0;
            } else {
                value = (int) (by.equals("/") ? exact / other : exact % other);
            }
        }
        return value;
    }

    private static int unit(Stream s, int[] facts, int open) {
        Token t = s.next();
        int fact = List.of("number", "rent", "way", "owner", "parts", "used", "day").indexOf(t.text);
        if (s.isEnd()) {
            throw new Fault(1, t.at);
        }
        if (t.kind == '0') {
            return s.want(0, 999);
        }
        if (fact >= 0) {
            s.i++;
            return facts[fact];
        }
        boolean pair = t.text.equals("least") || t.text.equals("most");
        if (!pair && !t.text.equals("(")) {
            throw new Fault(1, t.at);
        }
        if (open == 6) {
            throw new Fault(3, t.at);
        }
        s.i++;
        if (!pair) {
            int value = sum(s, facts, open + 1);
            s.want(")");
            return value;
        }
        s.want("[");
        int one = sum(s, facts, open + 1);
        s.want(",");
        int other = sum(s, facts, open + 1);
        s.want("]");
        return t.text.equals("least") ? Math.min(one, other) : Math.max(one, other);
    }

    /** A STEP: its word, its numbers, and for an again what it holds. */
    record Step(String word, int[] numbers, List<Step> held) { }

    private List<Step> steps(Stream s, int open) {
        List<Step> all = new ArrayList<>();
        while (!s.isEnd() && !s.is("]")) {
            Token t = s.next();
            s.i++;
            switch (t.text) {
                case "use" -> all.add(new Step("use", new int[] {
                    s.want(0, w.coins.size() - 1), s.want(0, 60), s.want(0, 2)}, null));
                case "sell" -> all.add(new Step("sell", new int[] {
                    s.want(0, 60), s.want(0, w.coins.size() - 1), s.want(0, 999)}, null));
                case "rent" -> all.add(new Step("rent", new int[] {s.want(0, 60), s.want(0, 40)}, null));
                case "day" -> all.add(new Step("day", new int[0], null));
                case "again" -> {
                    if (open == 6) {
                        throw new Fault(3, t.at);
                    }
                    int times = s.want(0, 60);
                    s.want("[");
                    List<Step> held = steps(s, open + 1);
                    s.want("]");
                    all.add(new Step("again", new int[] {times}, held));
                }
                default -> throw new Fault(1, t.at);
            }
            s.want(";");
        }
        return all;
    }

    private int begun;
    private int done;

    int work(int n) {
        String text = take(n, 150);
        if (works.size() == 16) {
            return -20;
        }
        List<Step> all;
        try {
            Stream s = new Stream(text);
            all = steps(s, 0);
            if (!s.isEnd()) {
                throw new Fault(1, s.next().at);
            }
        } catch (Fault f) {
            return failed(f);
        }
        works.push(w.copy());
        begun = 0;
        done = 0;
        refused = 0;
        perform(all);
        return done;
    }

    private void perform(List<Step> all) {
        for (Step step : all) {
            if (begun == 200) {
                return;
            }
            begun++;
            if (step.word.equals("again")) {
                for (int i = 0; i < step.numbers[0]; i++) {
                    perform(step.held);
                }
            } else if (performOne(step)) {
                done++;
            } else {
                refused++;
            }
        }
    }

    private boolean performOne(Step step) {
        int[] x = step.numbers;
        switch (step.word) {
            case "use":
                return use(w, x[0], x[1], x[2]);
            case "sell": {
                int was = w.owner[x[0]];
                if (was == x[1] || w.coins.get(x[1]) < x[2]) {
                    return false;
                }
                w.coins.set(x[1], w.coins.get(x[1]) - x[2]);
                earn(w, was, x[2]);
                w.owner[x[0]] = x[1];
                return true;
            }
            case "rent":
                if (w.owner[x[0]] < 0 || w.rent[x[0]] == x[1]) {
                    return false;
                }
                w.rent[x[0]] = x[1];
                return true;
            default:
                if (w.day == 900) {
                    return false;
                }
                w.day++;
                w.used = new int[61];
                return true;
        }
    }

    private static void earn(World w, int who, int coins) {
        if (who >= 0) {
            w.coins.set(who, Math.min(9999, w.coins.get(who) + coins));
        }
    }

    private boolean use(World in, int person, int number, int way) {
        int owner = in.owner[number];
        int pays = owner == -1 || owner == person ? 0 : fareIn(in, number, way);
        if (in.coins.get(person) < pays) {
            return false;
        }
        if (pays > 0) {
            in.coins.set(person, in.coins.get(person) - pays);
            earn(in, owner, pays);
        }
        in.used[number]++;
        return true;
    }

    int book(int n) {
        String text = take(n, 100);
        List<int[]> lines = new ArrayList<>();
        try {
            Stream s = new Stream(text);
            while (!s.isEnd()) {
                int at = s.next().at;
                int number = s.want(0, 60);
                for (int[] line : lines) {
                    if (line[0] == number) {
                        throw new Fault(2, at);
                    }
                }
                if (lines.size() == 8) {
                    throw new Fault(3, at);
                }
                lines.add(new int[] {number, s.want(1, 30)});
                s.want(";");
            }
        } catch (Fault f) {
            return failed(f);
        }
        book = lines;
        return lines.size();
    }

    int fault() {
        return fault;
    }

    int undo() {
        if (works.isEmpty()) {
            return -1;
        }
        w = works.pop().copy();
        refused = 0;
        return works.size();
    }

    int image() {
        if (images.size() == 3) {
            return -1;
        }
        images.push(new Image(w.copy(), new ArrayList<>(works)));
        return images.size();
    }

    int restore() {
        if (images.isEmpty()) {
            return -1;
        }
        Image latest = images.pop();
        w = latest.world;
        works = new ArrayDeque<>(latest.works);
        refused = 0;
        return images.size();
    }

    int status(int what) {
        return what == 0 ? noSuch : what == 1 ? illegal : -1;
    }

    int count(int what) {
        return what == 0 ? images.size() : what == 1 ? tape.length() : what == 2 ? works.size() : -1;
    }

    // ---- who owns what ----

    private int allCoins(World of) {
        return of.coins.stream().mapToInt(c -> c).sum();
    }

    int told(int what) {
        arg(in(what, 0, 7));
        return new int[] {
            w.coins.size(), w.day, duty, (int) Arrays.stream(w.owner).filter(o -> o >= 0).count(),
            Arrays.stream(w.used).sum(), book.size(), refused, allCoins(w)}[what];
    }

    private List<Integer> numbersOf(int person) {
        List<Integer> all = new ArrayList<>();
        for (int n = 0; n <= 60; n++) {
            if (w.owner[n] == person) {
                all.add(n);
            }
        }
        return all;
    }

    int person(int person, int what) {
        thing(isPerson(person));
        arg(in(what, 0, 4));
        List<Integer> his = numbersOf(person);
        return new int[] {
            w.coins.get(person), his.size(), his.stream().mapToInt(n -> w.rent[n]).sum(),
            his.isEmpty() ? -1 : his.get(0), his.isEmpty() ? -1 : his.get(his.size() - 1)}[what];
    }

    private static int parts(int number) {
        int many = 0;
        for (int d = 1; d <= number; d++) {
            many += number % d == 0 ? 1 : 0;
        }
        return many;
    }

    int number(int number, int what) {
        thing(in(number, 0, 60));
        arg(in(what, 0, 4));
        int prime = -1;
        for (int p : new int[] {59, 53, 47, 43, 41, 37, 31, 29, 23, 19, 17, 13, 11, 7, 5, 3, 2}) {
            prime = number > 0 && number % p == 0 ? p : prime;
        }
        return new int[] {w.owner[number], w.rent[number], w.used[number], parts(number), prime}[what];
    }

    int landlord(int what) {
        arg(in(what, 0, 1));
        int best = -1;
        for (int p = w.coins.size() - 1; p >= 0; p--) {
            int rents = person(p, 2);
            if (rents > 0 && (best < 0 || rents >= person(best, 2))) {
                best = p;
            }
        }
        return what == 0 || best < 0 ? best : person(best, 2);
    }

    int worth(int person) {
        thing(isPerson(person));
        return numbersOf(person).stream().mapToInt(n -> 10 * w.rent[n] + 1).sum();
    }

    int run(int person, int what) {
        thing(isPerson(person));
        arg(in(what, 0, 1));
        for (int length = 61; length > 0; length--) {
            for (int first = 0; first + length <= 61; first++) {
                boolean his = true;
                for (int i = 0; i < length; i++) {
                    his &= w.owner[first + i] == person;
                }
                if (his) {
                    return what == 0 ? length : first;
                }
            }
        }
        return what == 0 ? 0 : -1;
    }

    int primes(int person) {
        thing(isPerson(person));
        return (int) numbersOf(person).stream().filter(n -> parts(n) == 2).count();
    }

    int poorest(int what) {
        arg(in(what, 0, 1));
        int best = -1;
        for (int p = 0; p < w.coins.size(); p++) {
            if (best < 0 || w.coins.get(p) < w.coins.get(best)) {
                best = p;
            }
        }
        return what == 0 || best < 0 ? best : w.coins.get(best);
    }

    int tax(int person, int n) {
        thing(isPerson(person));
        arg(in(n, 0, 9999));
        int bound = 0;
        while (bound < 10000 && given(bound + 1) <= n) {
            bound++;
        }
        return Math.min(bound, w.coins.get(person));
    }

    private int given(int bound) {
        return w.coins.stream().mapToInt(c -> Math.min(c, bound)).sum();
    }

    // ---- FARES ----

    private int byLaw(int number, int rent, int way, int owner, int used, int day) {
        int value = sum(new Stream(law), new int[] {number, rent, way, owner, parts(number), used, day}, 0);
        return value < 0 ? 0 : value > 99 ? 99 : value;
    }

    private int fareIn(World in, int number, int way) {
        return in.owner[number] < 0 ? 0
            : byLaw(number, in.rent[number], way, in.owner[number], in.used[number], in.day);
    }

    private int[] said() {
        int[] all = new int[61];
        for (int n = 0; n <= 60; n++) {
            all[n] = fareIn(w, n, 1);
        }
        return all;
    }

    int fare(int number, int way) {
        thing(in(number, 0, 60));
        arg(in(way, 0, 2));
        return fareIn(w, number, way);
    }

    int would(int number, int rent, int way, int owner, int used, int day) {
        arg(in(number, 0, 60) && in(rent, 0, 40) && in(way, 0, 2) && in(owner, 0, 5) && in(used, 0, 999)
            && in(day, 0, 900));
        return byLaw(number, rent, way, owner, used, day);
    }

    int cheapest(int number, int what) {
        thing(in(number, 0, 60));
        arg(in(what, 0, 1));
        int best = 2;
        for (int way = 1; way >= 0; way--) {
            if (fareIn(w, number, way) <= fareIn(w, number, best)) {
                best = way;
            }
        }
        return what == 0 ? best : fareIn(w, number, best);
    }

    int dearest(int a, int b, int what) {
        arg(in(a, 0, 60) && in(b, 0, 60) && a <= b && in(what, 0, 2));
        int[] said = said();
        int best = b;
        for (int n = b; n >= a; n--) {
            best = said[n] >= said[best] ? n : best;
        }
        return what == 0 ? best : what == 1 ? said[best] : Arrays.stream(said, a, b + 1).sum();
    }

    int affords(int person, int number, int way) {
        thing(isPerson(person) && in(number, 0, 60));
        arg(in(way, 0, 2));
        World tried = w.copy();
        int times = 0;
        while (times < 999 && use(tried, person, number, way)) {
            times++;
        }
        return times;
    }

    int dice(int f, int part) {
        arg(in(f, 1, 60) && in(part, 0, 1));
        int above = Arrays.stream(said(), 1, f + 1).sum();
        int below = f;
        for (int d = 60; d > 1; d--) {
            while (above % d == 0 && below % d == 0) {
                above /= d;
                below /= d;
            }
        }
        return part == 0 ? above : below;
    }

    // ---- sayings ----

    /** For each NUMBER what it costs and its leaves, by trying all until nothing gets better. */
    private int[][] spoken(int[] own, int step) {
        int[][] best = new int[61][];
        for (int n = 0; n <= 60; n++) {
            best[n] = new int[] {own[n], 1};
        }
        boolean better = true;
        while (better) {
            better = false;
            for (int a = 0; a <= 60; a++) {
                for (int b = 0; b <= 60; b++) {
                    for (int n : new int[] {a + b, a - b, a * b}) {
                        if (n < 0 || n > 60 || best[a][0] >= FAR || best[b][0] >= FAR) {
                            continue;
                        }
                        int[] tried = {best[a][0] + best[b][0] + step, best[a][1] + best[b][1]};
                        if (Arrays.compare(tried, best[n]) < 0) {
                            best[n] = tried;
                            better = true;
                        }
                    }
                }
            }
        }
        return best;
    }

    int cost(int number) {
        thing(in(number, 0, 60));
        return spoken(said(), duty)[number][0];
    }

    int leaves(int number) {
        thing(in(number, 0, 60));
        return spoken(said(), duty)[number][1];
    }

    int saying(int number, int what) {
        thing(in(number, 0, 60));
        arg(in(what, 0, 2));
        int[] own = said();
        int[][] best = spoken(own, duty);
        int[] first = {9};
        if (Arrays.equals(best[number], new int[] {own[number], 1})) {
            first = new int[] {0, -1, -1};
        }
        for (int a = 0; a <= 60; a++) {
            for (int b = 0; b <= 60; b++) {
                int[] tried = {best[a][0] + best[b][0] + duty, best[a][1] + best[b][1]};
                if (!Arrays.equals(tried, best[number])) {
                    continue;
                }
                int[] results = {-1, a <= b ? a + b : -1, a - b, a <= b ? a * b : -1};
                for (int how = 1; how <= 3; how++) {
                    int[] told = {how, a, b};
                    if (results[how] == number && Arrays.compare(told, first) < 0) {
                        first = told;
                    }
                }
            }
        }
        return first[what];
    }

    int common(int what) {
        arg(in(what, 0, 1));
        int[] own = said();
        int[][] best = spoken(own, duty);
        int many = 0;
        for (int n = 0; n <= 60; n++) {
            many += (what == 0 ? own[n] : best[n][0]) == 0 ? 1 : 0;
        }
        return many;
    }

    int sayable(int c, int what) {
        arg(in(c, 0, 99) && in(what, 0, 1));
        int[][] best = spoken(said(), duty);
        List<Integer> all = new ArrayList<>();
        for (int n = 0; n <= 60; n++) {
            if (best[n][0] <= c) {
                all.add(n);
            }
        }
        return what == 0 ? all.size() : all.isEmpty() ? -1 : all.get(all.size() - 1);
    }

    int out(int number) {
        thing(in(number, 0, 60));
        int[] own = new int[61];
        for (int n = 0; n <= 60; n++) {
            own[n] = w.rent[n] == 0 ? 0 : FAR;
        }
        int steps = spoken(own, 1)[number][0];
        return steps >= FAR ? -1 : steps;
    }

    /** least[s][x]: what it costs at the least to come from x to the end in just s steps, not by it. */
    private int[][] ways(int to) {
        int[][] least = new int[62][61];
        for (int[] row : least) {
            Arrays.fill(row, FAR);
        }
        least[0][to] = 0;
        for (int s = 1; s <= 61; s++) {
            for (int x = 0; x <= 60; x++) {
                for (int y = Math.max(0, x - 3); y <= Math.min(60, x + 3); y++) {
                    if (x != to && y != x && least[s - 1][y] < FAR) {
                        least[s][x] = Math.min(least[s][x], least[s - 1][y] + fareIn(w, y, y == to ? 1 : 2));
                    }
                }
            }
        }
        return least;
    }

    int round(int from, int to, int what) {
        thing(in(from, 0, 60) && in(to, 0, 60));
        arg(in(what, 0, 2));
        int[][] least = ways(to);
        int steps = 0;
        for (int s = 0; s <= 61; s++) {
            steps = least[s][from] < least[steps][from] ? s : steps;
        }
        if (what < 2) {
            return what == 0 ? least[steps][from] : steps;
        }
        for (int y = 0; y <= 60 && steps > 0; y++) {
            if (y != from && Math.abs(y - from) <= 3
                    && least[steps - 1][y] + fareIn(w, y, y == to ? 1 : 2) == least[steps][from]) {
                return y;
            }
        }
        return -1;
    }

    // ---- buying and guessing ----

    int buy(int c, int what) {
        arg(in(c, 0, 9999) && in(what, 0, 1));
        int[] best = {0, 0};
        for (int set = 0; set < 256; set++) {
            int price = 0;
            int saved = 0;
            boolean can = set < 1 << book.size();
            for (int i = 0; i < book.size() && can; i++) {
                if ((set & 1 << i) != 0) {
                    int number = book.get(i)[0];
                    can = w.owner[number] >= 0;
                    price += 10 * w.rent[number] + 1;
                    saved += book.get(i)[1] * fareIn(w, number, 1);
                }
            }
            if (can && price <= c && saved > best[0]) {
                best = new int[] {saved, set};
            }
        }
        return best[what];
    }

    private List<int[]> rows(int v, int k) {
        int[] said = said();
        List<int[]> all = new ArrayList<>();
        extend(all, said, new int[0], v, k);
        return all;
    }

    private static void extend(List<int[]> all, int[] said, int[] row, int left, int k) {
        if (row.length == k) {
            if (left == 0) {
                all.add(row);
            }
            return;
        }
        for (int n = row.length == 0 ? 1 : row[row.length - 1]; n <= 60; n++) {
            int[] longer = Arrays.copyOf(row, row.length + 1);
            longer[row.length] = n;
            extend(all, said, longer, left - said[n], k);
        }
    }

    int meant(int v, int k, int what) {
        arg(in(v, 0, 297) && in(k, 1, 3) && in(what, 0, 1));
        List<int[]> all = rows(v, k);
        if (what == 0) {
            return all.size();
        }
        return all.isEmpty() ? -1 : Arrays.stream(all.get(0)).reduce(0, (x, y) -> 100 * x + y);
    }

    int look(int v, int k, int what) {
        arg(in(v, 0, 297) && in(k, 1, 3) && in(what, 0, 1));
        List<int[]> all = rows(v, k);
        int[] best = {0, Integer.MAX_VALUE};
        for (int n = 1; n <= 60; n++) {
            int number = n;
            int with = (int) all.stream().filter(row -> Arrays.stream(row).anyMatch(x -> x == number)).count();
            int worst = Math.max(with, all.size() - with);
            if (worst < best[1]) {
                best = new int[] {n, worst};
            }
        }
        return best[what];
    }

    int lets(int k, int what) {
        arg(in(k, 0, 20) && in(what, 0, 2));
        List<int[]> rests = new ArrayList<>();
        for (int a = 0; a <= k; a++) {
            for (int b = 0; b <= k; b++) {
                boolean rests1 = true;
                for (int c = 0; c <= k; c++) {
                    rests1 &= gain(c, b)[0] <= gain(a, b)[0] && gain(a, c)[1] <= gain(a, b)[1];
                }
                if (rests1) {
                    rests.add(new int[] {a, b});
                }
            }
        }
        int[] first = rests.get(0);
        return what == 0 ? rests.size() : what == 1 ? 100 * first[0] + first[1]
            : gain(first[0], first[1])[0] + gain(first[0], first[1])[1];
    }

    private static int[] gain(int a, int b) {
        return a < b ? new int[] {a, 0} : b < a ? new int[] {0, b} : new int[] {a / 2, a / 2};
    }

    // ---- years ----

    private int seed;

    private int draw(int by) {
        seed = (int) ((long) seed * 1103515245L + 12345L);
        return (int) ((seed & 0x7fffffffL) >> 16) % by;
    }

    /** Uses done, coins of all, coins of the richest, NUMBERS used. */
    private int[] lived(int start, int uses) {
        World mine = w.copy();
        seed = start;
        int did = 0;
        Set<Integer> numbers = new HashSet<>();
        for (int i = 0; i < uses && !mine.coins.isEmpty(); i++) {
            int person = draw(mine.coins.size());
            int number = draw(61);
            int way = draw(3);
            if (use(mine, person, number, way)) {
                did++;
                numbers.add(number);
            }
            if (i % 8 == 7) {
                mine.day++;
                mine.used = new int[61];
            }
        }
        return new int[] {did, allCoins(mine), mine.coins.stream().mapToInt(c -> c).max().orElse(0), numbers.size()};
    }

    int year(int start, int uses, int what) {
        arg(in(uses, 1, 96) && in(what, 0, 3));
        return lived(start, uses)[what];
    }

    int span(int start, int many, int uses, int what) {
        arg(in(many, 1, 20) && in(uses, 1, 96) && in(what, 0, 2));
        int[] all = new int[many];
        for (int i = 0; i < many; i++) {
            all[i] = lived(start + i, uses)[0];
        }
        return what == 0 ? Arrays.stream(all).min().getAsInt() : what == 1 ? Arrays.stream(all).max().getAsInt()
            : w.coins.isEmpty() ? many : (int) Arrays.stream(all).filter(d -> d == uses).count();
    }
}
