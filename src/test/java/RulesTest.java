import java.io.IOException;
import java.lang.management.ManagementFactory;
import java.lang.reflect.Constructor;
import java.lang.reflect.Field;
import java.lang.reflect.Method;
import java.lang.reflect.Modifier;
import java.nio.file.Files;
import java.nio.file.Path;
import java.util.ArrayList;
import java.util.Arrays;
import java.util.List;
import java.util.Set;
import java.util.TreeSet;
import java.util.regex.Matcher;
import java.util.regex.Pattern;

/** What can be seen of LANGUAGE.md from the compiled class and its source: the face, sizes, words, and what calls make. */
public final class RulesTest {
    /** The document's face, each method with how many numbers it takes. */
    private static final String FACE = "feed5 land1 law1 work1 book1 fault0 undo0 told1 person2 number2 fare2 would6 cost1"
        + " saying2 leaves1 out1 round3 buy2 meant3 look3 dice2 lets2 tax2 dearest3 landlord1 common1 affords3 worth1"
        + " run2 cheapest2 primes1 poorest1 sayable2 year3 span4 image0 restore0 status1 count1";
    private static final String[] FORBIDDEN = {
        "->", "::", "\\btry\\b", "\\bcatch\\b", "\\bfinally\\b", "\\bsynchronized\\b", "\\bassert\\b", "Exact\\b", "\\bprotected\\b",
        "\\bpackage\\b", "java\\.(?!util\\.NoSuchElementException)", "System\\.(?!arraycopy)", "\\bThread\\b", "\\bRandom\\b",
        "\\bdouble\\b", "\\bfloat\\b", "\\[\\]\\[\\]", "for \\(;;", "while \\(true"};

    private static int wrong;

    public static void main(String[] args) throws IOException {
        Path root = Path.of(args.length > 0 ? args[0] : ".");
        face();
        members();
        words(root.resolve("src/main/java"));
        made();
        System.out.println(wrong == 0 ? "rules: kept as far as can be seen" : "rules: " + wrong + " broken");
        if (wrong != 0) {
            System.exit(1);
        }
    }

    private static void must(boolean right, String what) {
        if (!right) {
            wrong++;
            System.out.println("rules: " + what);
        }
    }

    private static void face() {
        Class<?> c = WidowSeven.class;
        must(Modifier.isPublic(c.getModifiers()) && Modifier.isFinal(c.getModifiers()), "the class is public and final");
        Set<String> due = new TreeSet<>(Arrays.asList(FACE.split(" ")));
        Set<String> there = new TreeSet<>();
        Set<String> publicNames = new TreeSet<>();
        for (Method m : c.getDeclaredMethods()) {
            if (!Modifier.isPrivate(m.getModifiers())) {
                there.add(m.getName() + m.getParameterCount());
                publicNames.add(m.getName());
                must(m.getReturnType() == int.class, m.getName() + " answers an int");
                must(Modifier.isPublic(m.getModifiers()), m.getName() + " is neither public nor private");
            }
        }
        must(there.equals(due), "the face is " + there + ", due is " + due);
        List<Class<?>> all = new ArrayList<>(Arrays.asList(c.getDeclaredClasses()));
        all.add(c);
        for (Class<?> each : all) {
            for (Method m : each.getDeclaredMethods()) {
                if (each != c || Modifier.isPrivate(m.getModifiers())) {
                    must(!publicNames.contains(m.getName()), each.getSimpleName() + "." + m.getName() + " bears a public name");
                }
            }
        }
        must(c.getDeclaredConstructors().length == 1 && c.getConstructors().length == 1, "one public constructor");
        must(c.getFields().length == 1 && WidowSeven.NONE == -1, "one public constant");
    }

    private static void members() {
        List<Class<?>> all = new ArrayList<>(Arrays.asList(WidowSeven.class.getDeclaredClasses()));
        must(all.size() <= 11, "some twelve classes");
        for (Class<?> each : all) {
            must(Modifier.isStatic(each.getModifiers()) && !Modifier.isPublic(each.getModifiers())
                && !Modifier.isProtected(each.getModifiers()), each.getSimpleName() + " is static and not public");
        }
        all.add(WidowSeven.class);
        for (Class<?> each : all) {
            int fields = 0;
            for (Field f : each.getDeclaredFields()) {
                boolean isStatic = Modifier.isStatic(f.getModifiers());
                fields += isStatic ? 0 : 1;
                must(!isStatic || Modifier.isFinal(f.getModifiers()), f.getName() + " is static and not final");
                must(Modifier.isPrivate(f.getModifiers()) || f.getName().equals("NONE"), f.getName() + " is not private");
            }
            must(fields <= 20, each.getSimpleName() + " has " + fields + " fields");
            for (Method m : each.getDeclaredMethods()) {
                must(m.getParameterCount() <= 7, m.getName() + " takes more than seven");
            }
            for (Constructor<?> made : each.getDeclaredConstructors()) {
                must(made.getParameterCount() <= 7, each.getSimpleName() + " takes more than seven");
            }
        }
    }

    private static void words(Path folder) throws IOException {
        try (var files = Files.list(folder)) {
            must(files.count() == 1, "one file");
        }
        String source = Files.readString(folder.resolve("WidowSeven.java"));
        String code = source.replaceAll("(?s)/\\*.*?\\*/", "").replaceAll("//[^\n]*", "");
        must(source.chars().allMatch(c -> c < 128), "plain signs alone");
        for (String word : FORBIDDEN) {
            Matcher m = Pattern.compile(word).matcher(code);
            must(!m.find(), "holds " + word);
        }
        Matcher thrown = Pattern.compile("throw\\s+(new \\w+\\(\"[a-z ]*\"\\);)?").matcher(code.replaceAll("throws [\\w, ]+", ""));
        while (thrown.find()) {
            must(thrown.group(1) != null && thrown.group(1).matches("new (NoSuchElement|IllegalArgument)Exception.*"),
                "throws otherwise than rule 6: " + thrown.group());
        }
        int start = 0;
        String[] lines = source.split("\n");
        for (int i = 0; i < lines.length; i++) {
            if (lines[i].matches(" {4}(public|private).*\\{| {8}\\w[^=]*\\).*\\{")) {
                start = i;
            }
            must(!lines[i].matches(" {4}\\}| {8}\\}") || lines[i].equals("    }") && lines[start].contains(" class ")
                || i - start < 60, "a long method at line " + (i + 1));
            must(lines[i].length() <= 120, "a long line " + (i + 1));
        }
    }

    /** All calls of a run live in one room: an object is small, and 512 of the dearest calls make little. */
    private static void made() {
        var bean = (com.sun.management.ThreadMXBean) ManagementFactory.getThreadMXBean();
        long id = Thread.currentThread().getId();
        WidowSeven warm = new WidowSeven();
        warm.work(0);
        long before = bean.getThreadAllocatedBytes(id);
        WidowSeven x = new WidowSeven();
        long object = bean.getThreadAllocatedBytes(id) - before;
        must(object < 20_000, "an object makes " + object + " bytes");
        before = bean.getThreadAllocatedBytes(id);
        for (int i = 0; i < 256; i++) {
            x.work(0);
            x.undo();
        }
        long works = bean.getThreadAllocatedBytes(id) - before;
        must(works < 256 * 1_000, "256 works make " + works + " bytes");
        before = bean.getThreadAllocatedBytes(id);
        for (int i = 0; i < 50; i++) {
            x.cost(60);
            x.saying(60, 1);
            x.out(60);
            x.round(0, 60, 0);
            x.look(0, 3, 0);
            x.span(i, 20, 96, 0);
            x.buy(99, 0);
            x.lets(20, 0);
        }
        long asked = bean.getThreadAllocatedBytes(id) - before;
        must(asked < 10_000, "400 questions make " + asked + " bytes");
    }
}
