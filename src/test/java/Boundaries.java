import java.io.IOException;
import java.nio.file.Files;
import java.nio.file.Path;
import java.util.ArrayList;
import java.util.List;
import java.util.Set;
import java.util.TreeSet;

/**
 * How a test of one sentence of the document is told: the promise, the sentence as it stands there, and what must
 * hold by it. A sentence without a check, or one that does not stand in the document, is a fault of the test.
 */
abstract class Boundaries extends Checks {
    private static final int PROMISES = 40;
    private static final Set<Integer> named = new TreeSet<>();
    private static final List<String> told = new ArrayList<>();
    private static String terms;
    private static String[] sections;
    private static String latest = "";
    private static int checksAhead;

    /** Reads the document; where it is not there (a checkout alone), sentences are not looked up. */
    static void readDocument(Path root) throws IOException {
        Path file = root.resolve("../shared/DOC.md");
        if (!Files.exists(file)) {
            System.out.println("boundaries: no " + file + ", sentences are not looked up");
            return;
        }
        String doc = Files.readString(file).replaceAll("\\s+", " ");
        sections = doc.split("## (?=Promise \\d+:|Not promised)");
        must(sections.length == PROMISES + 2, "the document has " + (sections.length - 2) + " promises");
        terms = sections[0];
    }

    /** From here on the checks are about this sentence. */
    static void sentence(int promise, String quote) {
        endSentence();
        latest = promise + " \"" + quote + "\"";
        about("promise " + latest);
        named.add(promise);
        told.add(latest);
        if (terms != null && promise < sections.length) {
            boolean stands = sections[promise].contains(quote) || terms.contains(quote);
            must(stands, "does not stand in the document");
        }
        checksAhead = checksMade();
    }

    private static void endSentence() {
        if (!latest.isEmpty()) {
            must(checksMade() > checksAhead, "is not tested");
        }
    }

    static void endSentences() {
        endSentence();
        for (int promise = 1; promise <= PROMISES; promise++) {
            about("promise " + promise);
            must(named.contains(promise), "no sentence of it is tested");
        }
        System.out.println("boundaries: " + told.size() + " sentences");
    }

    // ---- what can be seen of an object ----

    /** All that a call which only asks, or is refused, must leave as it was; some ninety calls. */
    static String seen(WidowSeven x) {
        StringBuilder s = new StringBuilder(seenOfLand(x));
        s.append(" fault ").append(x.fault()).append(" tape ").append(x.count(1));
        return s.toString();
    }

    /** The same without FAULT and TAPE, which every text changes. */
    static String seenOfLand(WidowSeven x) {
        StringBuilder s = new StringBuilder("told");
        for (int what = 0; what <= 7; what++) {
            s.append(' ').append(x.told(what));
        }
        for (int p = 0; p < x.told(0); p++) {
            s.append(" coins ").append(x.person(p, 0));
        }
        for (int n : new int[] {0, 1, 3, 4, 7, 9, 14, 20, 60}) {
            s.append(" number ").append(n);
            for (int what = 0; what <= 2; what++) {
                s.append(' ').append(x.number(n, what));
            }
            s.append(" fares ").append(x.fare(n, 0)).append(' ').append(x.fare(n, 2));
        }
        s.append(" images ").append(x.count(0)).append(" works ").append(x.count(2)).append(" buy ").append(x.buy(9999, 1));
        return s.toString();
    }

    static void same(String before, String after) {
        must(before.equals(after), "was: " + before + "\n    is: " + after);
    }

    /** A land that has all: PERSONS, a LAW, a BOOK, an IMAGE, WORKS, uses, a DAY, REFUSED STEPS. */
    static WidowSeven livedIn() {
        WidowSeven x = in(TWO);
        law(x, "rent / (1 + way) + used + day");
        book(x, "7 3;14 1;5 9;");
        work(x, "day;use 0 4 1;");
        x.image();
        work(x, "use 0 14 2;use 1 9 0;use 1 7 0;sell 20 0 1;rent 9 9;");
        return x;
    }

    // ---- ranges of what may be asked ----

    interface Asked {
        int ask(WidowSeven x, int[] a);
    }

    /**
     * Every argument from low to high can be asked, and none beyond: the first ones (as many as are PERSONS or
     * NUMBERS) are refused by NoSuchElementException, ahead of the others, which are refused by
     * IllegalArgumentException. A refused call is counted once, by its reason, and changes nothing.
     */
    static void ranges(String name, Asked call, int things, int[] low, int[] high) {
        ranges(name, call, things, low, high, 0);
    }

    /** The same, where the first ones, as many as are told, may be any number. */
    static void ranges(String name, Asked call, int things, int[] low, int[] high, int any) {
        WidowSeven x = in(TWO);
        must(answer(() -> call.ask(x, low)) > ILLEGAL, name + " is refused at the lowest");
        must(answer(() -> call.ask(x, high)) > ILLEGAL, name + " is refused at the highest");
        due(name + " was answered, and counted as refused", 0, () -> x.status(0) + x.status(1));
        for (int i = any; i < low.length; i++) {
            int want = i < things ? NO_SUCH : ILLEGAL;
            refused(name, call, want, with(low, i, low[i] - 1));
            refused(name, call, want, with(high, i, high[i] + 1));
            refused(name, call, want, with(low, i, Integer.MIN_VALUE));
            refused(name, call, want, with(high, i, Integer.MAX_VALUE));
            if (i < things) {
                // all behind the things are wrong, too
                int[] a = with(high, i, high[i] + 1);
                for (int j = things; j < a.length; j++) {
                    a[j] = -7;
                }
                refused(name, call, NO_SUCH, a);
            }
        }
    }

    private static int[] with(int[] a, int at, int value) {
        int[] changed = a.clone();
        changed[at] = value;
        return changed;
    }

    private static void refused(String name, Asked call, int want, int[] a) {
        WidowSeven x = livedIn();
        String before = seen(x);
        due(name + java.util.Arrays.toString(a), want, () -> call.ask(x, a));
        due(name, want == NO_SUCH ? 1 : 0, () -> x.status(0));
        due(name, want == NO_SUCH ? 0 : 1, () -> x.status(1));
        same(before, seen(x));
    }
}
