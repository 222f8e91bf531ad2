import java.io.IOException;
import java.lang.reflect.InvocationTargetException;
import java.lang.reflect.Method;
import java.lang.reflect.Modifier;
import java.nio.file.Files;
import java.nio.file.Path;
import java.util.ArrayList;
import java.util.List;
import java.util.Set;
import java.util.TreeSet;
import java.util.regex.Matcher;
import java.util.regex.Pattern;

/** What README.md says is so: its example answers this, and its table has each call. */
public final class ReadmeTest {
    private static final String MAKE = "GearTrains bench = new GearTrains();";
    private static final Pattern STEP =
            Pattern.compile("bench\\.(\\w+)\\((.*?)\\); +// ([^ :]+)(: .+)?");
    private static final Pattern ROW =
            Pattern.compile("\\| `(\\w+ \\w+\\(.*?\\))` \\| (.+?) \\| (.*?) ?\\|");

    private static final Set<String> called = new TreeSet<>();

    public static void main(String[] args) throws IOException {
        String readme = Files.readString(Path.of("README.md"));
        example(between(readme, "```java\n", "```"));
        table(readme);
        Check.end();
    }

    private static String between(String text, String before, String after) {
        int start = text.indexOf(before);
        int end = start < 0 ? -1 : text.indexOf(after, start + before.length());
        return end < 0 ? "" : text.substring(start + before.length(), end);
    }

    private static void example(String code) {
        GearTrains bench = new GearTrains();
        int steps = 0;
        for (String line : code.split("\n")) {
            Matcher step = STEP.matcher(line);
            if (step.matches()) {
                Check.same(line, answer(bench, step.group(1), step.group(2)), step.group(3));
                called.add(step.group(1));
                steps++;
            } else {
                Check.same("a line of another kind: " + line,
                        line.isEmpty() || line.equals(MAKE) && steps == 0, true);
            }
        }
        Set<String> all = new TreeSet<>();
        for (Method method : calls()) {
            all.add(method.getName());
        }
        Check.same("the example has each call", called.toString(), all.toString());
    }

    private static String answer(GearTrains bench, String name, String given) {
        Method method = named(name);
        if (method == null) {
            return "there is no such call";
        }
        try {
            return String.valueOf(method.invoke(bench, values(given)));
        } catch (InvocationTargetException e) {
            return e.getCause().getClass().getSimpleName();
        } catch (IllegalAccessException | IllegalArgumentException e) {
            return "it can't be called so";
        }
    }

    private static Object[] values(String given) {
        List<Object> values = new ArrayList<>();
        for (String one : given.isEmpty() ? new String[0] : given.split(", ")) {
            boolean isTruth = one.equals("true") || one.equals("false");
            values.add(isTruth ? (Object) Boolean.valueOf(one) : (Object) Integer.valueOf(one));
        }
        return values.toArray();
    }

    private static void table(String readme) throws IOException {
        String face = between(Files.readString(Path.of("../shared/DOC.md")), "```java\n", "```");
        List<String> due = new ArrayList<>();
        Matcher call = Pattern.compile("public (\\w+ \\w+\\(.*?\\))( throws .+)?;").matcher(face);
        while (call.find()) {
            due.add(call.group(1) + shortNames(call.group(2)));
        }
        List<String> rows = new ArrayList<>();
        Matcher row = ROW.matcher(readme);
        while (row.find()) {
            rows.add(row.group(1) + shortNames(row.group(3)));
        }
        Check.same("as many calls as the class has", due.size(), calls().size());
        Check.same("the table has the calls of the document", String.join("\n", rows),
                String.join("\n", due));
    }

    /** The exceptions that are named there, in their order. */
    private static String shortNames(String named) {
        StringBuilder names = new StringBuilder();
        Matcher name = Pattern.compile("IOB|IAE|ISE|(IndexOutOfBounds|IllegalArgument|IllegalState)"
                + "Exception").matcher(named == null ? "" : named);
        while (name.find()) {
            names.append(' ').append(name.group().replace("IndexOutOfBoundsException", "IOB")
                    .replace("IllegalArgumentException", "IAE")
                    .replace("IllegalStateException", "ISE"));
        }
        return names.toString();
    }

    private static Method named(String name) {
        for (Method method : calls()) {
            if (method.getName().equals(name)) {
                return method;
            }
        }
        return null;
    }

    private static List<Method> calls() {
        List<Method> calls = new ArrayList<>();
        for (Method method : GearTrains.class.getDeclaredMethods()) {
            if (Modifier.isPublic(method.getModifiers())) {
                calls.add(method);
            }
        }
        return calls;
    }
}
