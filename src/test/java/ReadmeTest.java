import java.io.IOException;
import java.net.URL;
import java.net.URLClassLoader;
import java.nio.file.Files;
import java.nio.file.Path;
import java.util.ArrayList;
import java.util.List;
import java.util.TreeSet;
import java.util.regex.Matcher;
import java.util.regex.Pattern;
import java.util.stream.Stream;
import javax.tools.ToolProvider;

/** README.md: its calls answer what it says, its tables name all there is, its way to run the tests is there. */
public final class ReadmeTest {
    private static final Path ROOT = Path.of(System.getProperty("root"));
    private static final Path TESTS = ROOT.resolve("src/test/java"), SHARED = ROOT.resolve("../shared/tests");
    private static final Pattern BLOCK = Pattern.compile("(?ms)^```java\n(.*?)^```$");
    private static final Pattern CALL = Pattern.compile("(x\\.(\\w+)\\([^;]*\\)); +// (-?\\d+|NONE|BAD|STATE|FULL): .+");
    private static final Pattern OTHER = Pattern.compile(
        "PuddingHobs x = new PuddingHobs\\(\\);|for \\(char letter : \".*\"\\.toCharArray\\(\\)\\) \\{| {4}x\\.feed\\(letter\\);|\\}");
    private static final int MOST_CALLS = 512;

    public static void main(String[] args) throws ReflectiveOperationException, IOException {
        String readme = Files.readString(ROOT.resolve("README.md"));
        List<String> lines = shownLines(readme);
        theShownCallsAreWhole(lines);
        theShownCallsAnswer(lines);
        theTableOfCallsIsWhole(readme);
        theTableOfTestsIsWhole(readme);
        theWayToRunIsThere(readme);
        Check.finish();
    }

    private static List<String> shownLines(String readme) {
        List<String> lines = new ArrayList<>();
        for (String block : groups(BLOCK, readme)) {
            lines.addAll(List.of(block.split("\n")));
        }
        return lines;
    }

    private static List<String> groups(Pattern pattern, String text) {
        return pattern.matcher(text).results().map(m -> m.group(1)).toList();
    }

    /** Each line is a call with its answer, or one of the few that need none; each method is shown. */
    private static void theShownCallsAreWhole(List<String> lines) {
        TreeSet<String> shown = new TreeSet<>(List.of("feed"));
        int calls = 0;
        for (String line : lines) {
            Matcher call = CALL.matcher(line);
            boolean isCall = call.matches();
            Check.due("a call with its answer: " + line, isCall || OTHER.matcher(line).matches());
            if (isCall) {
                shown.add(call.group(2));
                calls++;
            } else if (line.contains("\"")) {
                calls += line.lastIndexOf('"') - line.indexOf('"') - 1;
            }
        }
        Check.due("calls shown " + shown, shown.equals(Check.methodsOf(PuddingHobs.class).keySet()));
        Check.due("few enough for one object: " + calls, calls <= MOST_CALLS);
    }

    /** The lines are compiled as they stand, but that the answers are put by. */
    private static void theShownCallsAnswer(List<String> lines) throws ReflectiveOperationException, IOException {
        StringBuilder body = new StringBuilder();
        List<String> calls = new ArrayList<>();
        List<Integer> wants = new ArrayList<>();
        for (String line : lines) {
            Matcher call = CALL.matcher(line);
            if (call.matches()) {
                body.append("answers[").append(calls.size()).append("] = ");
                calls.add(call.group(1));
                wants.add(numberOf(call.group(3)));
            }
            body.append(line).append('\n');
        }
        int[] answers = answersOf(body.toString(), calls.size());
        for (int i = 0; i < answers.length; i++) {
            Check.due("README: " + calls.get(i), answers[i], wants.get(i));
        }
    }

    private static int numberOf(String answer) throws ReflectiveOperationException {
        return Character.isLetter(answer.charAt(0)) ? PuddingHobs.class.getField(answer).getInt(null) : Integer.parseInt(answer);
    }

    private static int[] answersOf(String body, int many) throws ReflectiveOperationException, IOException {
        Path dir = Files.createTempDirectory("shown");
        try {
            Path file = Files.writeString(dir.resolve("Shown.java"), "public final class Shown { public static int[] run() {\n"
                + "int[] answers = new int[" + many + "];\n" + body + "return answers; } }\n");
            int exit = ToolProvider.getSystemJavaCompiler().run(null, null, null, "-cp",
                System.getProperty("java.class.path"), "-d", dir.toString(), file.toString());
            Check.due("what is shown compiles", exit, 0);
            return exit == 0 ? runFrom(dir) : new int[0];
        } finally {
            deleteAll(dir);
        }
    }

    private static int[] runFrom(Path dir) throws ReflectiveOperationException, IOException {
        try (URLClassLoader loader = new URLClassLoader(new URL[] {dir.toUri().toURL()})) {
            return (int[]) loader.loadClass("Shown").getMethod("run").invoke(null);
        }
    }

    private static void deleteAll(Path dir) throws IOException {
        for (String name : namesIn(dir, "")) {
            Files.delete(dir.resolve(name));
        }
        Files.delete(dir);
    }

    private static TreeSet<String> namesIn(Path dir, String end) throws IOException {
        TreeSet<String> names = new TreeSet<>();
        try (Stream<Path> files = Files.list(dir)) {
            files.map(file -> file.getFileName().toString()).filter(name -> name.endsWith(end)).forEach(names::add);
        }
        return names;
    }

    /** The calls of the class, with the names of their arguments, in their order. */
    private static void theTableOfCallsIsWhole(String readme) throws IOException {
        String source = Files.readString(ROOT.resolve("src/main/java/PuddingHobs.java"));
        List<String> faced = groups(Pattern.compile("(?m)^    public int (\\w+\\([^)]*\\))"), source);
        List<String> told = groups(Pattern.compile("(?m)^\\| `([^`]*)` \\| .+ \\|$"), readme);
        Check.due("36 calls", faced.size(), 36);
        Check.due("calls told: " + told, told.equals(faced.stream().map(call -> call.replace("int ", "")).toList()));
    }

    private static void theTableOfTestsIsWhole(String readme) throws IOException {
        List<String> told = groups(Pattern.compile("(?m)^\\| (\\w+Test) \\| .+ \\|$"), readme);
        TreeSet<String> files = new TreeSet<>(told.stream().map(name -> name + ".java").toList());
        Check.due("tests told: " + told, files.equals(namesIn(TESTS, "Test.java")) && files.size() == told.size());
    }

    /** All by .ci/run, some by .ci/run with their names. */
    private static void theWayToRunIsThere(String readme) throws IOException {
        List<String> commands = groups(Pattern.compile("(?m)^    (\\S.*)$"), readme.substring(readme.indexOf("\n## Tests\n")));
        Check.due("commands told: " + commands, commands.contains(".ci/run"));
        Check.due(".ci/run can be run", Files.isExecutable(ROOT.resolve(".ci/run")));
        TreeSet<String> tests = namesIn(TESTS, "Test.java");
        tests.addAll(namesIn(SHARED, ".java"));
        for (String command : commands) {
            String[] words = command.split(" ");
            Check.due("the command " + command, words[0].equals(".ci/run"));
            for (int i = 1; i < words.length; i++) {
                Check.due("there is " + words[i], tests.contains(words[i] + ".java"));
            }
        }
    }
}
