import java.io.IOException;
import java.lang.reflect.Method;
import java.lang.reflect.Modifier;
import java.nio.charset.StandardCharsets;
import java.nio.file.Files;
import java.nio.file.Path;
import java.util.ArrayList;
import java.util.List;
import java.util.Set;
import java.util.TreeSet;
import java.util.regex.Matcher;
import java.util.regex.Pattern;
import java.util.stream.Collectors;
import java.util.stream.Stream;

/**
 * Runs the examples of README.md, so that they stay true; run from the project's root.
 * The first Java block is a program of its own; the others are put together to one that checks each told answer.
 */
public final class ReadmeTest {
    private static final Path README = Path.of("README.md");
    private static final Path MADE = Path.of("build", "readme");
    private static final String EXAMPLES = "ReadmeExamples";

    /** A call, alone or as the value of a new variable, and behind it what it answers, perhaps with a remark. */
    private static final Pattern TOLD = Pattern.compile(
            "(?:\\w+ (\\w+) = )?(forge\\.(\\w+)\\(.*\\));\\s*// (-?\\d+|NONE|true|false|throws \\w+)(?:: .*)?");

    private final Check check = new Check("ReadmeTest");
    private final List<String> lines = Files.readAllLines(README);
    private final Set<String> toldCalls = new TreeSet<>();
    private final Set<String> toldExceptions = new TreeSet<>();
    private int answersTold = 0;

    private ReadmeTest() throws IOException {
    }

    public static void main(String[] args) throws IOException, InterruptedException {
        new ReadmeTest().test();
    }

    private void test() throws IOException, InterruptedException {
        Files.createDirectories(MADE);
        List<List<Integer>> java = blocks("java");
        check.due("a program and examples are there", true, () -> java.size() > 1);
        check.due("commands and what they print are there", true,
                () -> !blocks("sh").isEmpty() && !blocks("text").isEmpty());
        if (java.size() > 1 && !blocks("sh").isEmpty() && !blocks("text").isEmpty()) {
            testProgram(java.get(0), blocks("sh").get(0), blocks("text").get(0));
            testExamples(java.subList(1, java.size()));
        }
        check.due("calls of which the answer is told", faceCalls(), () -> toldCalls);
        check.due("exceptions that are told", new TreeSet<>(Set.of("throws IndexOutOfBoundsException",
                "throws IllegalArgumentException", "throws IllegalStateException")), () -> toldExceptions);
        check.due("tests that are not told of", List.of(), () -> untoldTests());
        check.end();
    }

    /** The numbers of the lines in each block of a kind. */
    private List<List<Integer>> blocks(String kind) {
        List<List<Integer>> all = new ArrayList<>();
        boolean inBlock = false;
        boolean isMeant = false;
        for (int line = 0; line < lines.size(); line++) {
            if (lines.get(line).startsWith("```")) {
                inBlock = !inBlock;
                isMeant = inBlock && lines.get(line).equals("```" + kind);
                if (isMeant) {
                    all.add(new ArrayList<>());
                }
            } else if (isMeant) {
                all.get(all.size() - 1).add(line);
            }
        }
        return all;
    }

    private List<String> textOf(List<Integer> block) {
        return block.stream().map(lines::get).collect(Collectors.toList());
    }

    private void testProgram(List<Integer> program, List<Integer> commands, List<Integer> printed)
            throws IOException, InterruptedException {
        Path file = MADE.resolve("Mine.java");
        Files.write(file, textOf(program));
        StringBuilder got = new StringBuilder();
        for (String command : textOf(commands)) {
            got.append(run(command.replace("Mine.java", file.toString()).split(" ")));
        }
        check.due("the whole program prints", textOf(printed), () -> got.toString().lines().toList());
    }

    private void testExamples(List<List<Integer>> blocks) throws IOException, InterruptedException {
        List<String> program = new ArrayList<>();
        program.add("public final class " + EXAMPLES + " {");
        program.add("public static void main(String[] args) {");
        program.add("Check check = new Check(\"" + EXAMPLES + "\");");
        for (List<Integer> block : blocks) {
            for (int line : block) {
                program.add(checked(line));
            }
        }
        program.add("check.end();");
        program.add("}");
        program.add("}");
        Path file = MADE.resolve(EXAMPLES + ".java");
        Files.write(file, program);
        String path = System.getProperty("java.class.path");
        String compiled = run("javac", "-d", MADE.toString(), "-cp", path, file.toString());
        check.due("the examples compile", "", () -> compiled);
        String told = run("java", "-cp", path + System.getProperty("path.separator") + MADE, EXAMPLES);
        check.due("the examples answer as told", EXAMPLES + ": " + answersTold + " checks, 0 wrong", told::strip);
    }

    /** The line of an example, with a check of the answer that it tells. */
    private String checked(int line) {
        String text = lines.get(line);
        Matcher matcher = TOLD.matcher(text);
        if (!matcher.matches()) {
            check.due("line " + (line + 1) + " has a call without its answer", false,
                    () -> text.startsWith("forge.") || text.matches("\\w+ \\w+ = forge\\..*"));
            return text;
        }
        answersTold++;
        String variable = matcher.group(1);
        String call = matcher.group(2);
        String answer = matcher.group(4);
        toldCalls.add(matcher.group(3));
        if (answer.startsWith("throws ")) {
            toldExceptions.add(answer);
        }
        String due = answer.equals("NONE") ? "Letterforge.NONE" : "\"" + answer.replace("throws ", "throws.") + "\"";
        String rest = "check.due(\"line " + (line + 1) + " of README.md, " + call + "\", " + due + ", () -> ";
        return variable == null ? rest + call + ");" : text + "\n" + rest + variable + ");";
    }

    /** What a command prints; behind that its exit code, if this is not 0. */
    private static String run(String... command) throws IOException, InterruptedException {
        Process process = new ProcessBuilder(command).redirectErrorStream(true).start();
        process.getOutputStream().close();
        String printed = new String(process.getInputStream().readAllBytes(), StandardCharsets.UTF_8);
        int code = process.waitFor();
        return code == 0 ? printed : printed + "exit code " + code + " of " + String.join(" ", command);
    }

    private static Set<String> faceCalls() {
        Set<String> all = new TreeSet<>();
        for (Method method : Letterforge.class.getDeclaredMethods()) {
            if (Modifier.isPublic(method.getModifiers())) {
                all.add(method.getName());
            }
        }
        return all;
    }

    private List<String> untoldTests() {
        String readme = String.join("\n", lines);
        String[] files = Path.of("src", "test", "java").toFile().list();
        return Stream.of(files == null ? new String[] {"src/test/java"} : files)
                .filter(file -> file.endsWith("Test.java"))
                .map(file -> file.replace(".java", ""))
                .filter(test -> !readme.contains("- `" + test + "`:"))
                .sorted()
                .collect(Collectors.toList());
    }
}
