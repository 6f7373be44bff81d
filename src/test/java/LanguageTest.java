import java.io.IOException;
import java.lang.reflect.Field;
import java.lang.reflect.Modifier;
import java.nio.file.Files;
import java.nio.file.Path;
import java.util.ArrayList;
import java.util.Arrays;
import java.util.List;
import java.util.Set;
import java.util.TreeSet;
import java.util.regex.Matcher;
import java.util.regex.Pattern;

/**
 * The rules of ../shared/LANGUAGE.md, as far as the text and the fields of the program show them;
 * run from the project's root.
 */
public final class LanguageTest {
    private static final Path PROGRAM = Path.of("src/main/java/Letterforge.java");
    private static final Set<String> LIBRARY = Set.of("Math.min", "Math.max", "Math.abs", "Long.bitCount",
            "Integer.bitCount", "Arrays.fill", "Arrays.copyOf", "Arrays.copyOfRange", "System.arraycopy");
    private static final Set<String> EXCEPTIONS = Set.of("IllegalStateException", "IllegalArgumentException",
            "IndexOutOfBoundsException");
    private static final int LONGEST_METHOD = 60, MOST_PARAMETERS = 7, MOST_CLASSES = 12, MOST_FIELDS = 20;

    private static Set<String> found(String text, String pattern) {
        Set<String> all = new TreeSet<>();
        Matcher matcher = Pattern.compile(pattern).matcher(text);
        while (matcher.find()) {
            all.add(matcher.group(matcher.groupCount()));
        }
        return all;
    }

    /** The greatest number of lines of a method, told by how its first and its last line are set in. */
    private static int longestMethod(List<String> lines) {
        int longest = 0;
        int first = -1;
        String end = "";
        for (int line = 0; line < lines.size(); line++) {
            String text = lines.get(line);
            if (first < 0 && text.matches(" {4,8}[\\w\\[\\]. ]+\\(.*\\{") && !text.contains(" new ")) {
                first = line;
                end = text.replaceAll("\\S.*", "") + "}";
            } else if (first >= 0 && text.equals(end)) {
                longest = Math.max(longest, line - first + 1);
                first = -1;
            }
        }
        return longest;
    }

    /** Numbers and truth values, own classes, arrays of both, and of two dimensions those of numbers alone. */
    private static boolean isAllowed(Class<?> type) {
        Class<?> element = type.isArray() ? type.getComponentType() : type;
        if (element.isArray()) {
            Class<?> inner = element.getComponentType();
            return inner.isPrimitive() && inner != boolean.class;
        }
        return element.isPrimitive() || element.getEnclosingClass() == Letterforge.class;
    }

    private static void checkFields(Check check) {
        List<Class<?>> classes = new ArrayList<>(Arrays.asList(Letterforge.class.getDeclaredClasses()));
        classes.add(Letterforge.class);
        for (Class<?> type : classes) {
            int fields = 0;
            for (Field field : type.getDeclaredFields()) {
                check.due(field + " has a type of rule 3", true, () -> isAllowed(field.getType()));
                fields += Modifier.isStatic(field.getModifiers()) ? 0 : 1;
            }
            int count = fields;
            check.due("some twenty fields in " + type, true, () -> count <= MOST_FIELDS);
        }
    }

    public static void main(String[] args) throws IOException {
        Check check = new Check("LanguageTest");
        List<String> lines = Files.readAllLines(PROGRAM);
        String all = String.join("\n", lines);
        String code = all.replaceAll("(?s)/\\*.*?\\*/", "").replaceAll("//.*", "");
        String bare = code.replaceAll("\"[^\"\n]*\"", "\"\"");

        check.due("imports", Set.of("java.util.Arrays"), () -> found(bare, "import ([\\w.]+);"));
        check.due("signs of the text", false, () -> all.chars().anyMatch(sign -> sign > 126));
        for (String ruledOut : List.of("->", "::", "\\bcatch\\b", "\\btry\\b", "\\bfinally\\b", "\\bsynchronized\\b",
                "\\bassert\\b", "\\bpackage\\b", "\\bprotected\\b", "\\binstanceof\\b", "\\bdouble\\b", "\\bfloat\\b",
                "\\bvar\\b", "_VALUE\\b", "\\bString\\b", "\\bObject\\b", "\\bstatic \\{", "\\.length\\(\\)")) {
            check.due("uses of " + ruledOut, Set.of(), () -> found(bare, "(" + ruledOut + ")"));
        }
        Set<String> library = found(bare, "\\b((?:Math|Integer|Long|Arrays|System|List)\\.\\w+)");
        library.removeAll(LIBRARY);
        check.due("library beside the allowed", Set.of(), () -> library);
        check.due("throws with another thing than a new exception and a written text", Set.of(),
                () -> found(bare, "(throw (?!new \\w+\\((\"\")?\\);).*)"));
        Set<String> thrown = found(bare, "throw new (\\w+)");
        check.due("exceptions", new TreeSet<>(EXCEPTIONS), () -> thrown);
        check.due("static things that may change", Set.of(),
                () -> found(bare, "\n(.*\\bstatic (?!final\\b|class\\b|int \\w+\\(|boolean \\w+\\().*)"));
        int classes = bare.split("\\bclass\\b", -1).length - 1;
        check.due("some twelve classes", true, () -> classes <= MOST_CLASSES);
        int longest = longestMethod(lines);
        check.due("methods are found, and short: " + longest, true, () -> longest > 5 && longest <= LONGEST_METHOD);
        for (String parameters : found(bare, "\\w+ \\w+\\(((?:\\w+(?:\\[\\])* \\w+,?\\s*)+)\\)\\s*(?:throws|\\{)")) {
            check.due("not more than seven of " + parameters, true,
                    () -> parameters.split(",").length <= MOST_PARAMETERS);
        }
        checkFields(check);
        check.end();
    }
}
