import java.util.NoSuchElementException;
import java.util.function.IntSupplier;

/** How a test is told: texts put on the TAPE, answers that are due, and lands that more than one test needs. */
abstract class Checks {
    static final int NO_SUCH = Integer.MIN_VALUE;
    static final int ILLEGAL = Integer.MIN_VALUE + 1;
    static final String TWO = "person 50;person 5;own 7 0 20;own 3 0 8;own 4 1 6;own 14 1 30;own 1 1 0;duty 1;";

    private static String subject = "";
    private static int checks;
    private static int wrong;

    static void about(String what) {
        subject = what;
    }

    static int checksMade() {
        return checks;
    }

    /** Says how it went, and ends the program with 1 if anything was wrong. */
    static void end(String name) {
        System.out.println(name + ": " + checks + " checks, " + wrong + " wrong");
        if (wrong != 0) {
            System.exit(1);
        }
    }

    static void must(boolean right, String what) {
        checks++;
        if (!right) {
            wrong++;
            System.out.println(subject + " (line " + lineOfTest() + "): " + what);
        }
    }

    static int answer(IntSupplier call) {
        try {
            return call.getAsInt();
        } catch (NoSuchElementException e) {
            return NO_SUCH;
        } catch (IllegalArgumentException e) {
            return ILLEGAL;
        }
    }

    static void due(int want, IntSupplier call) {
        due("", want, call);
    }

    static void due(String which, int want, IntSupplier call) {
        int got = answer(call);
        must(got == want, which + " answered " + shown(got) + ", due is " + shown(want));
    }

    private static String shown(int answer) {
        if (answer == NO_SUCH) {
            return "throws.NoSuchElementException";
        }
        return answer == ILLEGAL ? "throws.IllegalArgumentException" : Integer.toString(answer);
    }

    private static int lineOfTest() {
        for (StackTraceElement at : new Throwable().getStackTrace()) {
            if (!"Checks.java".equals(at.getFileName()) && !"Boundaries.java".equals(at.getFileName())) {
                return at.getLineNumber();
            }
        }
        return 0;
    }

    /** Puts a text on the TAPE; what is fed beyond it is no blank, so that a call that reads too far is seen. */
    static int put(WidowSeven x, String text) {
        for (int i = 0; i < text.length(); i += 20) {
            int[] f = new int[5];
            for (int j = 0; j < 20; j++) {
                f[j / 4] = f[j / 4] << 8 | (i + j < text.length() ? text.charAt(i + j) : 255);
            }
            x.feed(f[0], f[1], f[2], f[3], f[4]);
        }
        return text.length();
    }

    static int land(WidowSeven x, String text) {
        return x.land(put(x, text));
    }

    static int law(WidowSeven x, String text) {
        return x.law(put(x, text));
    }

    static int work(WidowSeven x, String text) {
        return x.work(put(x, text));
    }

    static int book(WidowSeven x, String text) {
        return x.book(put(x, text));
    }

    static WidowSeven in(String text) {
        WidowSeven x = new WidowSeven();
        int persons = land(x, text);
        must(persons >= 0, "the land has a fault at " + x.fault() + ": " + text);
        return x;
    }

    interface Teller {
        int tell(WidowSeven x, String text);
    }

    /** The text has such a FAULT at such a place. */
    static void faulty(WidowSeven x, Teller teller, String text, int kind, int place) {
        due(text, kind - 10, () -> teller.tell(x, text));
        due(text, place, x::fault);
        due(text, 0, () -> x.count(1));
    }

    static void fine(WidowSeven x, Teller teller, String text, int want) {
        due(text, want, () -> teller.tell(x, text));
        due(text, -1, x::fault);
        due(text, 0, () -> x.count(1));
    }

    /** One PERSON who lets all NUMBERS but those named, by a RENT of 9, after one WORK; other CLAUSES as told. */
    static WidowSeven allButFree(String clauses, int... free) {
        StringBuilder told = new StringBuilder("person9;").append(clauses);
        StringBuilder rest = new StringBuilder();
        int owned = 0;
        for (int n = 0; n <= 60; n++) {
            boolean isFree = false;
            for (int f : free) {
                isFree |= f == n;
            }
            if (isFree) {
                continue;
            }
            if (owned < 56 && told.length() < 590) {
                told.append("own").append(n).append(" 0 9;");
                owned++;
            } else {
                rest.append("sell ").append(n).append(" 0 0;rent ").append(n).append(" 9;");
            }
        }
        WidowSeven x = in(told.toString());
        int done = work(x, rest.toString());
        must(done >= 0 && x.told(6) == 0, "the rest of the land can't be told: " + rest);
        return x;
    }
}
