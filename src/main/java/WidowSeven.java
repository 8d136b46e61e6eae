import java.util.NoSuchElementException;

/**
 * A land of owned numbers: who owns what, what a use costs, and what is asked about it.
 * What every call answers is said by the numbered promises of the project's document.
 */
public final class WidowSeven {
    public static final int NONE = -1;

    private static final int LAST = 60;
    private static final int NUMBERS = 61;
    private static final int PERSONS = 6;
    private static final int RENT_MOST = 40;
    private static final int COINS_TOLD = 999;
    private static final int COINS_MOST = 9999;
    private static final int DAY_MOST = 900;
    private static final int FARE_MOST = 99;
    private static final int OPEN_MOST = 6;
    private static final int WORKS_MOST = 16;
    private static final int IMAGES_MOST = 3;
    private static final int USES_ASKED = 999;

    private static final int WRITTEN = 0;
    private static final int SAID = 1;
    private static final int PASSED = 2;

    private static final int CANT_STAND = 1;
    private static final int NONE_SUCH = 2;
    private static final int TOO_MANY = 3;

    private static final int[] PARTS = {
        0, 1, 2, 2, 3, 2, 4, 2, 4, 3, 4, 2, 6, 2, 4, 4, 5, 2, 6, 2, 6,
        4, 4, 2, 8, 3, 4, 4, 6, 2, 8, 2, 6, 4, 4, 4, 9, 2, 4, 4, 8,
        2, 8, 2, 6, 6, 4, 2, 10, 3, 6, 4, 6, 2, 8, 4, 8, 4, 4, 2, 12
    };

    private final Reader in;
    private Land land;
    private Land spareLand;
    private Law law;
    private Law spareLaw;
    private Book book;
    private Book spareBook;
    private final Affairs affairs;
    private Past past;
    private final Past[] images;
    private int imagesKept;
    private int refusedSteps;
    private int missing;
    private int wrong;
    private final int[] fares;
    private final Speech speech;
    private final Walk walk;
    private final Rows rows;
    private final Year year;

    public WidowSeven() {
        in = new Reader();
        land = new Land();
        spareLand = new Land();
        law = new Law();
        spareLaw = new Law();
        book = new Book();
        spareBook = new Book();
        affairs = new Affairs();
        images = new Past[IMAGES_MOST];
        fares = new int[NUMBERS];
        speech = new Speech();
        walk = new Walk();
        rows = new Rows();
        year = new Year();
    }

    // ---- texts ----

    public int feed(int a, int b, int c, int d, int e) {
        if (!in.hasRoom()) {
            return NONE;
        }
        in.put(a);
        in.put(b);
        in.put(c);
        in.put(d);
        in.put(e);
        return in.size;
    }

    public int land(int n) throws IllegalArgumentException {
        within(n, 0, in.size);
        in.open(n);
        if (!spareLand.read(in)) {
            return in.answer();
        }
        Land before = land;
        land = spareLand;
        spareLand = before;
        law.forget();
        book.forget();
        past = null;
        dropImages(0);
        refusedSteps = 0;
        return land.persons;
    }

    public int law(int n) throws IllegalArgumentException {
        within(n, 0, Math.min(in.size, Law.BYTES));
        in.open(n);
        if (!spareLaw.read(in)) {
            return in.answer();
        }
        Law before = law;
        law = spareLaw;
        spareLaw = before;
        return 1;
    }

    public int work(int n) throws IllegalArgumentException {
        within(n, 0, Math.min(in.size, Affairs.BYTES));
        in.open(n);
        if (worksKept() >= WORKS_MOST) {
            return -20;
        }
        if (!affairs.read(in, land.persons)) {
            return in.answer();
        }
        past = new Past(land.copyOfRow(), past);
        affairs.perform(land, law);
        refusedSteps = affairs.refused;
        return affairs.done;
    }

    public int book(int n) throws IllegalArgumentException {
        within(n, 0, Math.min(in.size, Book.BYTES));
        in.open(n);
        if (!spareBook.read(in)) {
            return in.answer();
        }
        Book before = book;
        book = spareBook;
        spareBook = before;
        return book.lines;
    }

    public int fault() {
        return in.place;
    }

    // ---- what stays, what is undone ----

    public int undo() {
        if (past == null) {
            return -1;
        }
        land.takeRow(past.row);
        past = past.before;
        refusedSteps = 0;
        return worksKept();
    }

    public int image() {
        if (imagesKept >= IMAGES_MOST) {
            return -1;
        }
        images[imagesKept] = new Past(land.copyOfRow(), past);
        imagesKept++;
        return imagesKept;
    }

    public int restore() {
        if (imagesKept <= 0) {
            return -1;
        }
        Past kept = images[imagesKept - 1];
        if (kept != null) {
            land.takeRow(kept.row);
            past = kept.before;
        }
        refusedSteps = 0;
        dropImages(imagesKept - 1);
        return imagesKept;
    }

    public int status(int what) {
        switch (what) {
            case 0: return missing;
            case 1: return wrong;
            default: return NONE;
        }
    }

    public int count(int what) {
        switch (what) {
            case 0: return imagesKept;
            case 1: return in.size;
            case 2: return worksKept();
            default: return NONE;
        }
    }

    // ---- who owns what ----

    public int told(int what) throws IllegalArgumentException {
        within(what, 0, 7);
        switch (what) {
            case 0: return land.persons;
            case 1: return land.day();
            case 2: return land.duty;
            case 3: return land.owned();
            case 4: return land.uses();
            case 5: return book.lines;
            case 6: return refusedSteps;
            default: return land.allCoins();
        }
    }

    public int person(int person, int what) throws NoSuchElementException, IllegalArgumentException {
        needPerson(person);
        within(what, 0, 4);
        switch (what) {
            case 0: return land.coins(person);
            case 1: return land.numbersOf(person);
            case 2: return land.rentsOf(person);
            case 3: return land.leastOf(person);
            default: return land.greatestOf(person);
        }
    }

    public int number(int number, int what) throws NoSuchElementException, IllegalArgumentException {
        needNumber(number);
        within(what, 0, 4);
        switch (what) {
            case 0: return land.owner(number);
            case 1: return land.rent(number);
            case 2: return land.used(number);
            case 3: return PARTS[number];
            default: return leastPrime(number);
        }
    }

    public int landlord(int what) throws IllegalArgumentException {
        within(what, 0, 1);
        int who = NONE;
        int most = 0;
        for (int p = 0; p < land.persons; p++) {
            int rents = land.rentsOf(p);
            if (rents > most) {
                most = rents;
                who = p;
            }
        }
        return what == 0 || who == NONE ? who : most;
    }

    public int worth(int person) throws NoSuchElementException {
        needPerson(person);
        int all = 0;
        for (int n = 0; n <= LAST; n++) {
            if (land.owner(n) == person) {
                all += land.price(n);
            }
        }
        return all;
    }

    public int run(int person, int what) throws NoSuchElementException, IllegalArgumentException {
        needPerson(person);
        within(what, 0, 1);
        int longest = 0;
        int first = NONE;
        int length = 0;
        for (int n = 0; n <= LAST; n++) {
            length = land.owner(n) == person ? length + 1 : 0;
            if (length > longest) {
                longest = length;
                first = n - length + 1;
            }
        }
        return what == 0 ? longest : first;
    }

    public int primes(int person) throws NoSuchElementException {
        needPerson(person);
        int many = 0;
        for (int n = 0; n <= LAST; n++) {
            if (land.owner(n) == person && PARTS[n] == 2) {
                many++;
            }
        }
        return many;
    }

    public int poorest(int what) throws IllegalArgumentException {
        within(what, 0, 1);
        int who = NONE;
        int fewest = NONE;
        for (int p = 0; p < land.persons; p++) {
            if (who == NONE || land.coins(p) < fewest) {
                who = p;
                fewest = land.coins(p);
            }
        }
        return what == 0 ? who : fewest;
    }

    public int tax(int person, int n) throws NoSuchElementException, IllegalArgumentException {
        needPerson(person);
        within(n, 0, COINS_MOST);
        int coins = land.coins(person);
        if (land.givenBy(COINS_MOST) <= n) {
            return coins;
        }
        int held = 0;
        int beyond = COINS_MOST;
        for (int i = 0; i < 32 && beyond - held > 1; i++) {
            int middle = (held + beyond) / 2;
            if (land.givenBy(middle) <= n) {
                held = middle;
            } else {
                beyond = middle;
            }
        }
        return Math.min(coins, held);
    }

    // ---- what a use costs ----

    public int fare(int number, int way) throws NoSuchElementException, IllegalArgumentException {
        needNumber(number);
        within(way, WRITTEN, PASSED);
        return land.fareBy(law, number, way);
    }

    public int would(int number, int rent, int way, int owner, int used, int day)
            throws IllegalArgumentException {
        within(number, 0, LAST);
        within(rent, 0, RENT_MOST);
        within(way, WRITTEN, PASSED);
        within(owner, 0, PERSONS - 1);
        within(used, 0, USES_ASKED);
        within(day, 0, DAY_MOST);
        return law.asks(number, rent, way, owner, used, day);
    }

    public int cheapest(int number, int what) throws NoSuchElementException, IllegalArgumentException {
        needNumber(number);
        within(what, 0, 1);
        int best = WRITTEN;
        int least = land.fareBy(law, number, WRITTEN);
        for (int way = SAID; way <= PASSED; way++) {
            int fare = land.fareBy(law, number, way);
            if (fare < least) {
                least = fare;
                best = way;
            }
        }
        return what == 0 ? best : least;
    }

    public int dearest(int a, int b, int what) throws IllegalArgumentException {
        within(a, 0, LAST);
        within(b, a, LAST);
        within(what, 0, 2);
        land.faresBy(law, SAID, fares);
        int best = a;
        int all = 0;
        for (int n = a; n <= b; n++) {
            all += fares[n];
            if (fares[n] > fares[best]) {
                best = n;
            }
        }
        switch (what) {
            case 0: return best;
            case 1: return fares[best];
            default: return all;
        }
    }

    public int affords(int person, int number, int way) throws NoSuchElementException, IllegalArgumentException {
        needPerson(person);
        needNumber(number);
        within(way, WRITTEN, PASSED);
        int owner = land.owner(number);
        if (owner == NONE || owner == person) {
            return USES_ASKED;
        }
        int left = land.coins(person);
        for (int times = 0; times < USES_ASKED; times++) {
            // each use may raise the next one's FARE: the LAW may look at "used"
            left -= law.asks(number, land.rent(number), way, owner, land.used(number) + times, land.day());
            if (left < 0) {
                return times;
            }
        }
        return USES_ASKED;
    }

    public int dice(int f, int part) throws IllegalArgumentException {
        within(f, 1, LAST);
        within(part, 0, 1);
        land.faresBy(law, SAID, fares);
        int all = 0;
        for (int n = 1; n <= f; n++) {
            all += fares[n];
        }
        int shared = commonDivisor(all, f);
        if (shared == 0) {
            return 0;
        }
        return part == 0 ? all / shared : f / shared;
    }

    // ---- how a number is said, how one counts round it ----

    public int cost(int number) throws NoSuchElementException {
        needNumber(number);
        speech.say(land, law);
        return speech.price[number];
    }

    public int saying(int number, int what) throws NoSuchElementException, IllegalArgumentException {
        needNumber(number);
        within(what, 0, 2);
        speech.say(land, law);
        speech.choose(number);
        switch (what) {
            case 0: return speech.how;
            case 1: return speech.first;
            default: return speech.second;
        }
    }

    public int leaves(int number) throws NoSuchElementException {
        needNumber(number);
        speech.say(land, law);
        return speech.leaf[number];
    }

    public int common(int what) throws IllegalArgumentException {
        within(what, 0, 1);
        speech.say(land, law);
        int free = 0;
        for (int n = 0; n <= LAST; n++) {
            int coins = what == 0 ? speech.own[n] : speech.price[n];
            if (coins == 0) {
                free++;
            }
        }
        return free;
    }

    public int sayable(int c, int what) throws IllegalArgumentException {
        within(c, 0, FARE_MOST);
        within(what, 0, 1);
        speech.say(land, law);
        int many = 0;
        int greatest = NONE;
        for (int n = 0; n <= LAST; n++) {
            if (speech.price[n] <= c) {
                many++;
                greatest = n;
            }
        }
        return what == 0 ? many : greatest;
    }

    public int out(int number) throws NoSuchElementException {
        needNumber(number);
        speech.reachFromFree(land);
        return speech.price[number] == Speech.FAR ? NONE : speech.price[number];
    }

    public int round(int from, int to, int what) throws NoSuchElementException, IllegalArgumentException {
        needNumber(from);
        needNumber(to);
        within(what, 0, 2);
        walk.measure(land, law, to);
        switch (what) {
            case 0: return walk.coins(from);
            case 1: return walk.steps(from);
            default: return walk.firstFrom(from, to);
        }
    }

    // ---- which to buy, what was meant ----

    public int buy(int c, int what) throws IllegalArgumentException {
        within(c, 0, COINS_MOST);
        within(what, 0, 1);
        land.faresBy(law, SAID, fares);
        int best = 0;
        int most = 0;
        for (int set = 1; set < 1 << book.lines; set++) {
            if (book.canBuy(set, land, c)) {
                int saved = book.saved(set, fares);
                if (saved > most) {
                    most = saved;
                    best = set;
                }
            }
        }
        return what == 0 ? most : best;
    }

    public int meant(int v, int k, int what) throws IllegalArgumentException {
        gatherRows(v, k, what);
        return what == 0 ? rows.many : rows.first;
    }

    public int look(int v, int k, int what) throws IllegalArgumentException {
        gatherRows(v, k, what);
        int best = rows.mostTelling();
        return what == 0 ? best : rows.leftAtWorst(best);
    }

    public int lets(int k, int what) throws IllegalArgumentException {
        within(k, 0, 20);
        within(what, 0, 2);
        int many = 0;
        int first = NONE;
        int together = 0;
        for (int one = 0; one <= k; one++) {
            for (int other = 0; other <= k; other++) {
                if (!holdsTo(one, other, k) || !holdsTo(other, one, k)) {
                    continue;
                }
                if (many == 0) {
                    first = 100 * one + other;
                    together = letFor(one, other) + letFor(other, one);
                }
                many++;
            }
        }
        switch (what) {
            case 0: return many;
            case 1: return first;
            default: return together;
        }
    }

    // ---- years by seeds ----

    public int year(int seed, int uses, int what) throws IllegalArgumentException {
        within(uses, 1, Year.USES);
        within(what, 0, 3);
        year.live(land, law, seed, uses);
        switch (what) {
            case 0: return year.done;
            case 1: return year.land.allCoins();
            case 2: return year.land.richest();
            default: return year.numbersMet();
        }
    }

    public int span(int seed, int many, int uses, int what) throws IllegalArgumentException {
        within(many, 1, Year.SEEDS);
        within(uses, 1, Year.USES);
        within(what, 0, 2);
        int fewest = Year.USES;
        int most = 0;
        int unrefused = 0;
        for (int i = 0; i < many; i++) {
            year.live(land, law, seed + i, uses);
            fewest = Math.min(fewest, year.done);
            most = Math.max(most, year.done);
            if (year.refused == 0) {
                unrefused++;
            }
        }
        switch (what) {
            case 0: return fewest;
            case 1: return most;
            default: return unrefused;
        }
    }

    // ---- refusals ----

    private void needPerson(int person) {
        if (person < 0 || person >= land.persons) {
            missing++;
            throw new NoSuchElementException("no such person");
        }
    }

    private void needNumber(int number) {
        if (number < 0 || number > LAST) {
            missing++;
            throw new NoSuchElementException("no such number");
        }
    }

    private void within(int value, int low, int high) {
        if (value < low || value > high) {
            wrong++;
            throw new IllegalArgumentException("outside what can be asked");
        }
    }

    // ---- helpers of the calls ----

    private int worksKept() {
        return past == null ? 0 : past.depth;
    }

    private void dropImages(int left) {
        for (int i = left; i < IMAGES_MOST; i++) {
            images[i] = null;
        }
        imagesKept = left;
    }

    private void gatherRows(int v, int k, int what) {
        within(v, 0, Rows.LENGTH_MOST * FARE_MOST);
        within(k, 1, Rows.LENGTH_MOST);
        within(what, 0, 1);
        land.faresBy(law, SAID, fares);
        rows.gather(fares, v, k);
    }

    private static int leastPrime(int number) {
        for (int p = 2; p <= number; p++) {
            if (number % p == 0) {
                return p;
            }
        }
        return NONE;
    }

    private static int commonDivisor(int a, int b) {
        int greater = a;
        int less = b;
        for (int i = 0; i < 64 && less != 0; i++) {
            int left = greater % less;
            greater = less;
            less = left;
        }
        return greater;
    }

    private static int letFor(int mine, int others) {
        if (mine < others) {
            return mine;
        }
        return mine == others ? mine / 2 : 0;
    }

    private static boolean holdsTo(int mine, int others, int k) {
        int now = letFor(mine, others);
        for (int another = 0; another <= k; another++) {
            if (letFor(another, others) > now) {
                return false;
            }
        }
        return true;
    }

    /** The TAPE, and the one text that is read from it. */
    private static final class Reader {
        private static final int BYTES = 600;
        private static final int FED = 20;
        private static final int END = -1;
        private static final int FIGURE_CAP = 1000000;

        private final int[] tape = new int[BYTES];
        private int size;
        private int end;
        private int at;
        private int kind;
        private int place = NONE;

        boolean hasRoom() {
            return size + FED <= BYTES;
        }

        void put(int four) {
            for (int shift = 24; shift >= 0 && size < BYTES; shift -= 8) {
                tape[size] = (four >>> shift) & 255;
                size++;
            }
        }

        void open(int length) {
            end = length;
            size = 0;
            at = 0;
            kind = 0;
            place = NONE;
        }

        int answer() {
            return kind - 10;
        }

        /** What stands next behind the blanks, END behind the text. */
        int ahead() {
            while (at < end && tape[at] == ' ') {
                at++;
            }
            return at < end ? tape[at] : END;
        }

        void fail(int fault, int where) {
            if (kind == 0) {
                kind = fault;
                place = where;
            }
            // nothing stands behind a FAULT, so that all that reads comes to its end
            at = end;
        }

        boolean finish() {
            if (ahead() != END) {
                fail(CANT_STAND, at);
            }
            return kind == 0;
        }

        void sign(int wanted) {
            if (ahead() == wanted) {
                at++;
            } else {
                fail(CANT_STAND, at);
            }
        }

        /** A number from low to high; low, if there is a FAULT. */
        int figure(int low, int high) {
            ahead();
            int start = at;
            int value = 0;
            while (at < end && tape[at] >= '0' && tape[at] <= '9') {
                value = Math.min(FIGURE_CAP, value * 10 + tape[at] - '0');
                at++;
            }
            if (at == start) {
                fail(CANT_STAND, start);
                return low;
            }
            if (value < low || value > high) {
                fail(NONE_SUCH, start);
                return low;
            }
            return value;
        }

        /** Which of the known words (told with one blank between) it is; NONE, if there is a FAULT. */
        int word(String known) {
            ahead();
            int length = lettersAhead();
            int which = 0;
            int from = 0;
            for (int i = 0; i <= known.length(); i++) {
                if (i == known.length() || known.charAt(i) == ' ') {
                    if (length > 0 && i - from == length && isAhead(known, from, length)) {
                        at += length;
                        return which;
                    }
                    which++;
                    from = i + 1;
                }
            }
            fail(CANT_STAND, at);
            return NONE;
        }

        private int lettersAhead() {
            int stop = at;
            while (stop < end && tape[stop] >= 'a' && tape[stop] <= 'z') {
                stop++;
            }
            return stop - at;
        }

        private boolean isAhead(String known, int from, int length) {
            for (int i = 0; i < length; i++) {
                if (known.charAt(from + i) != tape[at + i]) {
                    return false;
                }
            }
            return true;
        }
    }

    /** PERSONS and NUMBERS; all that WORK changes lies in one row, so that it is kept and undone by a copy. */
    private static final class Land {
        private static final int CLAUSES = 60;
        private static final int DUTY_MOST = 20;
        private static final int DUTY_WITHOUT = 2;
        private static final String WORDS = "person own duty";
        private static final int PERSON = 0;
        private static final int OWN = 1;
        private static final int DUTY = 2;

        private static final int OWNER_AT = 0;
        private static final int RENT_AT = NUMBERS;
        private static final int USED_AT = 2 * NUMBERS;
        private static final int COINS_AT = 3 * NUMBERS;
        private static final int DAY_AT = COINS_AT + PERSONS;
        private static final int ROW = DAY_AT + 1;

        private final int[] row = new int[ROW];
        private int persons;
        private int duty;

        Land() {
            empty();
        }

        private void empty() {
            for (int i = 0; i < ROW; i++) {
                row[i] = i < RENT_AT ? NONE : 0;
            }
            persons = 0;
            duty = DUTY_WITHOUT;
        }

        boolean read(Reader in) {
            empty();
            for (int told = 0; told <= CLAUSES && in.ahead() != Reader.END; told++) {
                readClause(in, told);
            }
            return in.finish();
        }

        private void readClause(Reader in, int told) {
            int start = in.at;
            int word = in.word(WORDS);
            if (told >= CLAUSES || word == PERSON && persons >= PERSONS) {
                in.fail(TOO_MANY, start);
                return;
            }
            switch (word) {
                case PERSON:
                    row[COINS_AT + persons] = in.figure(0, COINS_TOLD);
                    persons++;
                    break;
                case OWN:
                    readOwned(in);
                    break;
                case DUTY:
                    duty = in.figure(0, DUTY_MOST);
                    break;
                default:
                    break;
            }
            in.sign(';');
        }

        private void readOwned(Reader in) {
            int number = in.figure(0, LAST);
            row[OWNER_AT + number] = in.figure(0, persons - 1);
            row[RENT_AT + number] = in.figure(0, RENT_MOST);
        }

        int[] copyOfRow() {
            return row.clone();
        }

        void takeRow(int[] kept) {
            if (kept != null && kept.length == ROW) {
                System.arraycopy(kept, 0, row, 0, ROW);
            }
        }

        void become(Land other) {
            takeRow(other.row);
            persons = other.persons;
            duty = other.duty;
        }

        int owner(int number) {
            return row[OWNER_AT + number];
        }

        int rent(int number) {
            return row[RENT_AT + number];
        }

        int used(int number) {
            return row[USED_AT + number];
        }

        int coins(int person) {
            return row[COINS_AT + person];
        }

        int day() {
            return row[DAY_AT];
        }

        int price(int number) {
            return 10 * rent(number) + 1;
        }

        int fareBy(Law law, int number, int way) {
            int owner = owner(number);
            if (owner == NONE) {
                return 0;
            }
            return law.asks(number, rent(number), way, owner, used(number), day());
        }

        void faresBy(Law law, int way, int[] into) {
            for (int n = 0; n < into.length && n <= LAST; n++) {
                into[n] = fareBy(law, n, way);
            }
        }

        boolean use(int person, int number, int fare) {
            int owner = owner(number);
            if (owner != person) {
                if (fare > coins(person)) {
                    return false;
                }
                pay(person, owner, fare);
            }
            row[USED_AT + number]++;
            return true;
        }

        boolean sell(int number, int person, int coins) {
            int owner = owner(number);
            if (owner == person || coins > coins(person)) {
                return false;
            }
            pay(person, owner, coins);
            row[OWNER_AT + number] = person;
            return true;
        }

        private void pay(int from, int to, int coins) {
            row[COINS_AT + from] -= coins;
            if (to != NONE) {
                row[COINS_AT + to] = Math.min(COINS_MOST, row[COINS_AT + to] + coins);
            }
        }

        boolean let(int number, int rent) {
            if (owner(number) == NONE || rent(number) == rent) {
                return false;
            }
            row[RENT_AT + number] = rent;
            return true;
        }

        void nextDay() {
            row[DAY_AT]++;
            for (int n = 0; n <= LAST; n++) {
                row[USED_AT + n] = 0;
            }
        }

        int owned() {
            int many = 0;
            for (int n = 0; n <= LAST; n++) {
                if (owner(n) != NONE) {
                    many++;
                }
            }
            return many;
        }

        int uses() {
            int all = 0;
            for (int n = 0; n <= LAST; n++) {
                all += used(n);
            }
            return all;
        }

        int allCoins() {
            return givenBy(COINS_MOST);
        }

        /** What all PERSONS give together, none more than the bound. */
        int givenBy(int bound) {
            int all = 0;
            for (int p = 0; p < persons; p++) {
                all += Math.min(bound, coins(p));
            }
            return all;
        }

        int richest() {
            int most = 0;
            for (int p = 0; p < persons; p++) {
                most = Math.max(most, coins(p));
            }
            return most;
        }

        int numbersOf(int person) {
            int many = 0;
            for (int n = 0; n <= LAST; n++) {
                if (owner(n) == person) {
                    many++;
                }
            }
            return many;
        }

        int rentsOf(int person) {
            int all = 0;
            for (int n = 0; n <= LAST; n++) {
                if (owner(n) == person) {
                    all += rent(n);
                }
            }
            return all;
        }

        int leastOf(int person) {
            for (int n = 0; n <= LAST; n++) {
                if (owner(n) == person) {
                    return n;
                }
            }
            return NONE;
        }

        int greatestOf(int person) {
            for (int n = LAST; n >= 0; n--) {
                if (owner(n) == person) {
                    return n;
                }
            }
            return NONE;
        }
    }

    /** A LAW as a row of instructions, each behind those whose values it takes; without any: rent / (1 + way). */
    private static final class Law {
        private static final int BYTES = 150;
        private static final int FIGURE_MOST = 999;
        // what is open at one time leaves no more than three values waiting for each of seven levels
        private static final int STACK = 32;
        private static final String WORDS = "number rent way owner parts used day least most";
        private static final int FACTS = 7;
        private static final int LEAST_WORD = 7;

        private static final int FIGURE = 0;
        private static final int FACT = 1;
        private static final int ADD = 2;
        private static final int TAKE = 3;
        private static final int TIMES = 4;
        private static final int DIVIDE = 5;
        private static final int LEAVE = 6;
        private static final int LEAST = 7;
        private static final int MOST = 8;

        private final int[] kinds = new int[BYTES];
        private final int[] values = new int[BYTES];
        private final int[] stack = new int[STACK];
        private final int[] facts = new int[FACTS];
        private int size;

        void forget() {
            size = 0;
        }

        boolean read(Reader in) {
            size = 0;
            readSum(in, 0);
            return in.finish();
        }

        private void readSum(Reader in, int open) {
            readProduct(in, open);
            for (int i = 0; i < BYTES; i++) {
                int sign = in.ahead();
                if (sign != '+' && sign != '-') {
                    return;
                }
                in.sign(sign);
                readProduct(in, open);
                add(sign == '+' ? ADD : TAKE, 0);
            }
        }

        private void readProduct(Reader in, int open) {
            readUnit(in, open);
            for (int i = 0; i < BYTES; i++) {
                int sign = in.ahead();
                if (sign != '*' && sign != '/' && sign != '%') {
                    return;
                }
                in.sign(sign);
                readUnit(in, open);
                add(sign == '*' ? TIMES : sign == '/' ? DIVIDE : LEAVE, 0);
            }
        }

        private void readUnit(Reader in, int open) {
            int next = in.ahead();
            int start = in.at;
            if (next >= '0' && next <= '9') {
                add(FIGURE, in.figure(0, FIGURE_MOST));
            } else if (next == '(') {
                if (mayOpen(in, open, start)) {
                    in.sign('(');
                    readSum(in, open + 1);
                    in.sign(')');
                }
            } else {
                int word = in.word(WORDS);
                if (word >= LEAST_WORD) {
                    if (mayOpen(in, open, start)) {
                        readPair(in, open + 1);
                        add(word == LEAST_WORD ? LEAST : MOST, 0);
                    }
                } else if (word >= 0) {
                    add(FACT, word);
                }
            }
        }

        private void readPair(Reader in, int open) {
            in.sign('[');
            readSum(in, open);
            in.sign(',');
            readSum(in, open);
            in.sign(']');
        }

        private static boolean mayOpen(Reader in, int open, int start) {
            if (open >= OPEN_MOST) {
                in.fail(TOO_MANY, start);
                return false;
            }
            return true;
        }

        private void add(int kind, int value) {
            if (size < BYTES) {
                kinds[size] = kind;
                values[size] = value;
                size++;
            }
        }

        /** FARE by this LAW for such a use. */
        int asks(int number, int rent, int way, int owner, int used, int day) {
            facts[0] = number;
            facts[1] = rent;
            facts[2] = way;
            facts[3] = owner;
            facts[4] = number >= 0 && number <= LAST ? PARTS[number] : 0;
            facts[5] = used;
            facts[6] = day;
            int fare = size == 0 ? joined(DIVIDE, rent, 1 + way) : followed();
            if (fare < 0) {
                return 0;
            }
            return fare > FARE_MOST ? FARE_MOST : fare;
        }

        private int followed() {
            int top = 0;
            for (int i = 0; i < size; i++) {
                int value = values[i];
                if (kinds[i] > FACT) {
                    if (top >= 2) {
                        top--;
                        stack[top - 1] = joined(kinds[i], stack[top - 1], stack[top]);
                    }
                } else if (top < STACK) {
                    boolean isFact = kinds[i] == FACT && value >= 0 && value < FACTS;
                    stack[top] = isFact ? facts[value] : value;
                    top++;
                }
            }
            return top > 0 ? stack[0] : 0;
        }

        private static int joined(int kind, int first, int second) {
            switch (kind) {
                case ADD: return first + second;
                case TAKE: return first - second;
                case TIMES: return first * second;
                case DIVIDE: return second == 0 ? 0 : first / second;
                case LEAVE: return second == 0 ? 0 : first % second;
                case LEAST: return first < second ? first : second;
                default: return first > second ? first : second;
            }
        }
    }

    /** A WORK: its STEPS in a row (an again ahead of what it holds), and what became of them. */
    private static final class Affairs {
        private static final int BYTES = 150;
        // the shortest STEP has four bytes
        private static final int STEPS = BYTES / 4 + 1;
        private static final int BEGUN_MOST = 200;
        private static final int TIMES_MOST = 60;
        private static final String WORDS = "use sell rent day again";
        private static final int USE = 0;
        private static final int SELL = 1;
        private static final int RENT = 2;
        private static final int DAY = 3;
        private static final int AGAIN = 4;

        private final int[] kinds = new int[STEPS];
        private final int[] ones = new int[STEPS];
        private final int[] twos = new int[STEPS];
        private final int[] threes = new int[STEPS];
        private int size;
        private int begun;
        private int done;
        private int refused;

        boolean read(Reader in, int persons) {
            size = 0;
            readSteps(in, persons, 0);
            return in.finish();
        }

        private void readSteps(Reader in, int persons, int open) {
            for (int i = 0; i < STEPS; i++) {
                int next = in.ahead();
                if (next == Reader.END || next == ']') {
                    return;
                }
                readStep(in, persons, open);
                in.sign(';');
            }
        }

        private void readStep(Reader in, int persons, int open) {
            int start = in.at;
            switch (in.word(WORDS)) {
                case USE:
                    add(USE, in.figure(0, persons - 1), in.figure(0, LAST), in.figure(WRITTEN, PASSED));
                    break;
                case SELL:
                    add(SELL, in.figure(0, LAST), in.figure(0, persons - 1), in.figure(0, COINS_TOLD));
                    break;
                case RENT:
                    add(RENT, in.figure(0, LAST), in.figure(0, RENT_MOST), 0);
                    break;
                case DAY:
                    add(DAY, 0, 0, 0);
                    break;
                case AGAIN:
                    readAgain(in, persons, open, start);
                    break;
                default:
                    break;
            }
        }

        private void readAgain(Reader in, int persons, int open, int start) {
            if (open >= OPEN_MOST) {
                in.fail(TOO_MANY, start);
                return;
            }
            int times = in.figure(0, TIMES_MOST);
            in.sign('[');
            int place = size;
            add(AGAIN, times, 0, 0);
            readSteps(in, persons, open + 1);
            if (place < STEPS) {
                twos[place] = size;
            }
            in.sign(']');
        }

        private void add(int kind, int one, int two, int three) {
            if (size < STEPS) {
                kinds[size] = kind;
                ones[size] = one;
                twos[size] = two;
                threes[size] = three;
                size++;
            }
        }

        void perform(Land land, Law law) {
            begun = 0;
            done = 0;
            refused = 0;
            performFrom(0, size, land, law, 0);
        }

        private void performFrom(int from, int to, Land land, Law law, int open) {
            int next = from;
            for (int i = 0; i < STEPS && next < to && begun < BEGUN_MOST; i++) {
                begun++;
                if (kinds[next] == AGAIN) {
                    repeat(next, land, law, open);
                    next = twos[next];
                } else {
                    if (performOne(next, land, law)) {
                        done++;
                    } else {
                        refused++;
                    }
                    next++;
                }
            }
        }

        private void repeat(int again, Land land, Law law, int open) {
            if (open >= OPEN_MOST) {
                return;
            }
            for (int i = 0; i < ones[again] && begun < BEGUN_MOST; i++) {
                performFrom(again + 1, twos[again], land, law, open + 1);
            }
        }

        private boolean performOne(int step, Land land, Law law) {
            switch (kinds[step]) {
                case USE: return land.use(ones[step], twos[step], land.fareBy(law, twos[step], threes[step]));
                case SELL: return land.sell(ones[step], twos[step], threes[step]);
                case RENT: return land.let(ones[step], twos[step]);
                default: break;
            }
            if (land.day() >= DAY_MOST) {
                return false;
            }
            land.nextDay();
            return true;
        }
    }

    /** A BOOK: which NUMBERS will be said, and how often. */
    private static final class Book {
        private static final int BYTES = 100;
        private static final int LINES = 8;
        private static final int TIMES_MOST = 30;

        private final int[] numbers = new int[LINES];
        private final int[] times = new int[LINES];
        private int lines;

        void forget() {
            lines = 0;
        }

        boolean read(Reader in) {
            lines = 0;
            for (int i = 0; i <= LINES && in.ahead() != Reader.END; i++) {
                readLine(in);
            }
            return in.finish();
        }

        private void readLine(Reader in) {
            int start = in.at;
            int number = in.figure(0, LAST);
            if (holds(number)) {
                in.fail(NONE_SUCH, start);
            }
            if (lines >= LINES) {
                in.fail(TOO_MANY, start);
                return;
            }
            numbers[lines] = number;
            times[lines] = in.figure(1, TIMES_MOST);
            lines++;
            in.sign(';');
        }

        private boolean holds(int number) {
            for (int i = 0; i < lines; i++) {
                if (numbers[i] == number) {
                    return true;
                }
            }
            return false;
        }

        boolean canBuy(int set, Land land, int coins) {
            int prices = 0;
            for (int i = 0; i < lines; i++) {
                if ((set >> i & 1) == 1) {
                    if (land.owner(numbers[i]) == NONE) {
                        return false;
                    }
                    prices += land.price(numbers[i]);
                }
            }
            return prices <= coins;
        }

        int saved(int set, int[] fares) {
            int all = 0;
            for (int i = 0; i < lines; i++) {
                if ((set >> i & 1) == 1 && numbers[i] < fares.length) {
                    all += times[i] * fares[numbers[i]];
                }
            }
            return all;
        }
    }

    /** All that WORK changes as it was once, and what can be undone from there. */
    private static final class Past {
        private final int[] row;
        private final Past before;
        private final int depth;

        Past(int[] row, Past before) {
            this.row = row;
            this.before = before;
            this.depth = before == null ? 1 : before.depth + 1;
        }
    }

    /**
     * What every NUMBER is had for, out of others by sums, differences and products.
     * A joined NUMBER is never cheaper than its parts and always has more leaves, so the least one
     * that is not settled yet can be settled for good, as on a shortest way.
     */
    private static final class Speech {
        private static final int FAR = 1000000000;
        private static final int ITSELF = 0;
        private static final int SUM = 1;
        private static final int DIFFERENCE = 2;
        private static final int PRODUCT = 3;

        private final int[] own = new int[NUMBERS];
        private final int[] price = new int[NUMBERS];
        private final int[] leaf = new int[NUMBERS];
        private final int[] settled = new int[NUMBERS];
        private final boolean[] isSettled = new boolean[NUMBERS];
        private int duty;
        private int how;
        private int first;
        private int second;

        void say(Land land, Law law) {
            land.faresBy(law, SAID, own);
            duty = land.duty;
            settleAll();
        }

        void reachFromFree(Land land) {
            for (int n = 0; n <= LAST; n++) {
                own[n] = land.rent(n) == 0 ? 0 : FAR;
            }
            duty = 1;
            settleAll();
        }

        private void settleAll() {
            for (int n = 0; n <= LAST; n++) {
                price[n] = own[n];
                leaf[n] = 1;
                isSettled[n] = false;
            }
            for (int many = 0; many < NUMBERS; many++) {
                int next = leastUnsettled();
                if (next == NONE) {
                    return;
                }
                isSettled[next] = true;
                settled[many] = next;
                for (int i = 0; i <= many; i++) {
                    offerJoined(next, settled[i]);
                }
            }
        }

        private int leastUnsettled() {
            int best = NONE;
            for (int n = 0; n <= LAST; n++) {
                if (!isSettled[n] && price[n] < FAR && (best == NONE || isLess(price[n], leaf[n], best))) {
                    best = n;
                }
            }
            return best;
        }

        private boolean isLess(int coins, int leaves, int number) {
            return coins < price[number] || coins == price[number] && leaves < leaf[number];
        }

        private void offerJoined(int one, int other) {
            int coins = price[one] + price[other] + duty;
            int leaves = leaf[one] + leaf[other];
            offer(one + other, coins, leaves);
            offer(Math.abs(one - other), coins, leaves);
            offer(one * other, coins, leaves);
        }

        private void offer(int number, int coins, int leaves) {
            if (number <= LAST && !isSettled[number] && isLess(coins, leaves, number)) {
                price[number] = coins;
                leaf[number] = leaves;
            }
        }

        /** The first of the best ways to say a NUMBER, into how, first and second. */
        void choose(int number) {
            how = ITSELF;
            first = NONE;
            second = NONE;
            if (price[number] == own[number] || chooseSum(number) || chooseDifference(number)) {
                return;
            }
            chooseProduct(number);
        }

        private boolean chooseSum(int number) {
            for (int a = 0; a <= number - a; a++) {
                if (take(number, SUM, a, number - a)) {
                    return true;
                }
            }
            return false;
        }

        private boolean chooseDifference(int number) {
            for (int a = number; a <= LAST; a++) {
                if (take(number, DIFFERENCE, a, a - number)) {
                    return true;
                }
            }
            return false;
        }

        private void chooseProduct(int number) {
            for (int a = 0; a <= LAST; a++) {
                for (int b = a; b <= LAST; b++) {
                    if (a * b == number && take(number, PRODUCT, a, b)) {
                        return;
                    }
                }
            }
        }

        private boolean take(int number, int by, int a, int b) {
            if (price[a] + price[b] + duty != price[number] || leaf[a] + leaf[b] != leaf[number]) {
                return false;
            }
            how = by;
            first = a;
            second = b;
            return true;
        }
    }

    /** WAYS ROUND to one NUMBER, from all others. */
    private static final class Walk {
        private static final int STRIDE = 3;
        // no best way has as many steps as this, so coins and steps fit into one measure
        private static final int COIN = 64;
        private static final int FAR = 1000000000;

        private final int[] toll = new int[NUMBERS];
        private final int[] measures = new int[NUMBERS];

        void measure(Land land, Law law, int to) {
            land.faresBy(law, PASSED, toll);
            toll[to] = land.fareBy(law, to, SAID);
            for (int n = 0; n <= LAST; n++) {
                measures[n] = FAR;
            }
            measures[to] = 0;
            boolean changed = true;
            for (int i = 0; i < NUMBERS && changed; i++) {
                changed = shorten();
            }
        }

        private boolean shorten() {
            boolean changed = false;
            for (int from = 0; from <= LAST; from++) {
                for (int next = lowest(from); next <= highest(from); next++) {
                    if (next != from && by(next) < measures[from]) {
                        measures[from] = by(next);
                        changed = true;
                    }
                }
            }
            return changed;
        }

        private static int lowest(int from) {
            return Math.max(0, from - STRIDE);
        }

        private static int highest(int from) {
            return Math.min(LAST, from + STRIDE);
        }

        private int by(int next) {
            return measures[next] == FAR ? FAR : measures[next] + toll[next] * COIN + 1;
        }

        int coins(int from) {
            return measures[from] / COIN;
        }

        int steps(int from) {
            return measures[from] % COIN;
        }

        int firstFrom(int from, int to) {
            if (from == to) {
                return NONE;
            }
            for (int next = lowest(from); next <= highest(from); next++) {
                if (next != from && by(next) == measures[from]) {
                    return next;
                }
            }
            return NONE;
        }
    }

    /** Rows that may have been MEANT: how many, the first, and in how many each NUMBER is. */
    private static final class Rows {
        private static final int LENGTH_MOST = 3;

        private final int[] holding = new int[NUMBERS];
        private int[] fares = new int[0];
        private int many;
        private int first;

        void gather(int[] said, int sum, int length) {
            fares = said;
            many = 0;
            first = NONE;
            for (int n = 0; n <= LAST; n++) {
                holding[n] = 0;
            }
            if (fares.length < NUMBERS) {
                return;
            }
            for (int a = 1; a <= LAST; a++) {
                int left = sum - fares[a];
                if (length > 1) {
                    gatherPairs(a, left, length);
                } else if (left == 0) {
                    found(a);
                    holding[a]++;
                }
            }
        }

        private void gatherPairs(int a, int sum, int length) {
            for (int b = a; b <= LAST; b++) {
                int left = sum - fares[b];
                if (length > 2) {
                    gatherTriples(a, b, left);
                } else if (left == 0) {
                    found(100 * a + b);
                    holdBoth(a, b);
                }
            }
        }

        private void gatherTriples(int a, int b, int left) {
            if (left < 0 || left > FARE_MOST) {
                return;
            }
            for (int c = b; c <= LAST; c++) {
                if (fares[c] == left) {
                    found(10000 * a + 100 * b + c);
                    holdBoth(a, b);
                    if (c != b) {
                        holding[c]++;
                    }
                }
            }
        }

        private void found(int row) {
            if (many == 0) {
                first = row;
            }
            many++;
        }

        private void holdBoth(int a, int b) {
            holding[a]++;
            if (b != a) {
                holding[b]++;
            }
        }

        int leftAtWorst(int number) {
            return Math.max(holding[number], many - holding[number]);
        }

        int mostTelling() {
            int best = 1;
            for (int n = 2; n <= LAST; n++) {
                if (leftAtWorst(n) < leftAtWorst(best)) {
                    best = n;
                }
            }
            return best;
        }
    }

    /** A YEAR, lived in a land of its own, so that the one that was asked about stays. */
    private static final class Year {
        private static final int USES = 96;
        private static final int SEEDS = 20;
        private static final int USES_OF_A_DAY = 8;

        private final Land land = new Land();
        private final boolean[] met = new boolean[NUMBERS];
        private int seed;
        private int done;
        private int refused;

        void live(Land from, Law law, int start, int uses) {
            land.become(from);
            seed = start;
            done = 0;
            refused = 0;
            for (int n = 0; n <= LAST; n++) {
                met[n] = false;
            }
            if (land.persons == 0) {
                return;
            }
            for (int i = 1; i <= uses; i++) {
                useDrawn(law);
                if (i % USES_OF_A_DAY == 0) {
                    land.nextDay();
                }
            }
        }

        private void useDrawn(Law law) {
            int person = draw(land.persons);
            int number = draw(NUMBERS);
            int way = draw(PASSED + 1);
            if (land.use(person, number, land.fareBy(law, number, way))) {
                done++;
                met[number] = true;
            } else {
                refused++;
            }
        }

        private int draw(int by) {
            seed = seed * 1103515245 + 12345;
            return by <= 0 ? 0 : (seed >>> 16 & 32767) % by;
        }

        int numbersMet() {
            int many = 0;
            for (int n = 0; n <= LAST; n++) {
                if (met[n]) {
                    many++;
                }
            }
            return many;
        }
    }
}
