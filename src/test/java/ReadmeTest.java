import java.io.IOException;
import java.lang.reflect.InvocationTargetException;
import java.lang.reflect.Method;
import java.nio.file.Files;
import java.nio.file.Path;
import java.util.regex.Matcher;
import java.util.regex.Pattern;

/** README.md tells no answer that the class does not give, and leaves out no call, no class and no test. */
public final class ReadmeTest extends Checks {
    /** A call, and behind it as a comment its answer, or what it throws. */
    private static final Pattern CALL = Pattern.compile("w\\.(\\w+)\\((.*)\\);\\s*// (throws \\w+|-?\\d+).*");
    private static final Pattern TEXT = Pattern.compile("put\\(w, \"(.*)\"\\)");

    public static void main(String[] args) throws IOException {
        Path root = Path.of(args.length > 0 ? args[0] : ".");
        String page = Files.readString(root.resolve("README.md"));
        answers(page);
        names(page, root);
        end("readme");
    }

    private static void answers(String page) {
        WidowSeven w = new WidowSeven();
        int told = 0;
        for (String line : page.split("\n")) {
            about(line);
            Matcher call = CALL.matcher(line);
            if (call.matches()) {
                told++;
                String got = answered(w, call.group(1), call.group(2));
                must(got.equals(call.group(3)), "answered " + got);
            } else {
                must(!line.startsWith("w."), "is no call with its answer");
            }
        }
        about("README.md");
        must(told > 0, "tells no call with its answer");
    }

    private static String answered(WidowSeven w, String name, String told) {
        Matcher text = TEXT.matcher(told);
        if (text.matches()) {
            return called(w, name, put(w, text.group(1)));
        }
        String[] parts = told.isEmpty() ? new String[0] : told.split(", *");
        Object[] numbers = new Object[parts.length];
        for (int i = 0; i < parts.length; i++) {
            numbers[i] = Integer.valueOf(parts[i]);
        }
        return called(w, name, numbers);
    }

    private static String called(WidowSeven w, String name, Object... numbers) {
        for (Method m : WidowSeven.class.getMethods()) {
            if (m.getName().equals(name) && m.getParameterCount() == numbers.length) {
                try {
                    return m.invoke(w, numbers).toString();
                } catch (InvocationTargetException e) {
                    return "throws " + e.getCause().getClass().getSimpleName();
                } catch (IllegalAccessException e) {
                    return "can't be called";
                }
            }
        }
        return "is no call of the face";
    }

    private static void names(String page, Path root) throws IOException {
        about("README.md");
        for (Method m : WidowSeven.class.getDeclaredMethods()) {
            if (java.lang.reflect.Modifier.isPublic(m.getModifiers())) {
                must(page.contains("`" + m.getName() + "`"), "leaves out the call " + m.getName());
            }
        }
        for (Class<?> inside : WidowSeven.class.getDeclaredClasses()) {
            must(page.contains("`" + inside.getSimpleName() + "`"), "leaves out the class " + inside.getSimpleName());
        }
        try (var files = Files.list(root.resolve("src/test/java"))) {
            for (Path file : files.toList()) {
                String name = file.getFileName().toString().replace(".java", "");
                must(!name.endsWith("Test") || page.contains("`" + name + "`"), "leaves out the test " + name);
            }
        }
    }
}
