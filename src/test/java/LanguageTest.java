import java.io.IOException;
import java.lang.reflect.Field;
import java.lang.reflect.Method;
import java.lang.reflect.Modifier;
import java.nio.file.Files;
import java.nio.file.Path;
import java.util.ArrayList;
import java.util.List;
import java.util.regex.Matcher;
import java.util.regex.Pattern;

/** The rules of ../shared/LANGUAGE.md, as far as the text of the program and its face show them. */
public final class LanguageTest {
    private static final Path SOURCE = Path.of("src/main/java/GearTrains.java");
    private static final int MOST_LINES = 60;

    public static void main(String[] args) throws IOException {
        String text = Files.readString(SOURCE);
        String code = withoutWords(text);
        Check.same("each sign is 10 or 32 to 126", all(text, "[^\\n -~]"), "[]");
        noOtherLibrary(code);
        noOtherForms(code);
        noIndex(code);
        exceptions(text, code);
        lines(text);
        for (Class<?> type : classes()) {
            fields(type);
            methods(type);
        }
        Check.same("at most 12 classes", classes().size() <= 12, true);
        Check.end();
    }

    /** The text without comments, and with nothing in what stands between quotes. */
    private static String withoutWords(String text) {
        return text.replaceAll("(?s)/\\*.*?\\*/", "").replaceAll("//.*", "")
                .replaceAll("\"[^\"\n]*\"", "\"\"");
    }

    private static void noOtherLibrary(String code) {
        Check.same("rule 1: no package line", all(code, "\\bpackage\\b"), "[]");
        Check.same("rule 4: what is imported", all(code, "(?m)^import .*$"),
                "[import java.util.ArrayList;]");
        Check.same("rule 4: of Math", all(code, "\\bMath\\.(?!(max|min|abs)\\()\\w*"), "[]");
        Check.same("rule 4: nothing else of the library", all(code, "\\b(System|Thread|Runtime|"
                + "Object|Objects|Class|Collections|Random|StrictMath|java)\\b(?!\\.util\\.Array)"),
                "[]");
    }

    private static void noOtherForms(String code) {
        Check.same("rules 2 and 6: words that aren't for it", all(code, "\\b(try|catch|finally|"
                + "synchronized|assert|native|volatile|transient|protected|var|hashCode|equals|"
                + "toString|getClass|Exact)\\b"), "[]");
        Check.same("rule 2: no lambda, no method reference", all(code, "->|::"), "[]");
        Check.same("rule 5: no static block", all(code, "\\bstatic\\s*\\{"), "[]");
        Check.same("rule 9: no loop without a bound of its own", all(code, "\\bwhile\\b|for \\(;|"
                + "for \\([^;)]*;\\s*;"), "[]");
    }

    // What is never indexed needs no index to be looked at: arrays are gone through as a whole.
    private static void noIndex(String code) {
        Check.same("rule 7: no array is indexed", all(code, "[\\w)\\]]\\s*\\[\\s*[^\\]\\s][^\\]]*"),
                "[]");
    }

    private static void exceptions(String text, String code) {
        Check.same("rule 6: what is thrown", all(code, "\\bthrow\\b(?! new (IllegalState|"
                + "IllegalArgument|IndexOutOfBounds)Exception\\(\"\"\\);).*"), "[]");
        Check.same("rule 6: with a written text", all(text, "Exception\\(\"\"?\\)"), "[]");
    }

    /** A method ends with the first closing brace that stands as far in as its first line. */
    private static void lines(String text) {
        List<String> rows = List.of(text.split("\n"));
        int met = 0;
        for (int k = 0; k < rows.size(); k++) {
            Matcher head = Pattern.compile("( {4}| {8})[^ }@/*].*\\(.*").matcher(rows.get(k));
            if (head.matches() && !rows.get(k).endsWith(";")) {
                int end = rows.subList(k, rows.size()).indexOf(head.group(1) + "}");
                Check.same("rule 11: lines of " + rows.get(k).trim(),
                        end > 0 && end < MOST_LINES, true);
                met++;
            }
        }
        Check.same("methods were met", met > 22, true);
    }

    private static void fields(Class<?> type) {
        int own = 0;
        for (Field field : type.getDeclaredFields()) {
            if (Modifier.isStatic(field.getModifiers())) {
                boolean isConstant = Modifier.isFinal(field.getModifiers())
                        && (field.getType().isPrimitive() || field.getType() == String.class);
                Check.same("rule 5: " + field + " is a constant", isConstant, true);
            } else {
                own++;
            }
        }
        Check.same("rule 11: fields of " + type, own <= 20, true);
    }

    private static void methods(Class<?> type) {
        for (Method method : type.getDeclaredMethods()) {
            Check.same("rule 11: parameters of " + method, method.getParameterCount() <= 7, true);
        }
    }

    private static List<Class<?>> classes() {
        List<Class<?>> all = new ArrayList<>(List.of(GearTrains.class.getDeclaredClasses()));
        all.add(GearTrains.class);
        return all;
    }

    private static String all(String text, String pattern) {
        List<String> found = new ArrayList<>();
        Matcher matcher = Pattern.compile(pattern).matcher(text);
        while (matcher.find()) {
            found.add(matcher.group());
        }
        return found.toString();
    }
}
