import java.io.File;
import java.io.IOException;
import java.lang.reflect.Field;
import java.lang.reflect.Method;
import java.lang.reflect.Modifier;
import java.nio.file.Files;
import java.nio.file.Path;
import java.nio.file.StandardCopyOption;
import java.util.Map;
import java.util.Set;
import java.util.TreeMap;
import java.util.TreeSet;
import java.util.regex.Matcher;
import java.util.regex.Pattern;

/** README.md, word for word: its commands are done, and what it tells of calls, answers and tests is so. */
public final class ReadmeTest {
    // Below `build`, so that .ci/run deletes it and git does not track it.
    private static final Path COPY = Path.of("build", "readme");
    private static final Path CLASS = Path.of("src", "main", "java", "KidGloves.java");
    private static final Path TESTS = Path.of("src", "test", "java");

    private final String text;

    private ReadmeTest(String text) {
        this.text = text;
    }

    public static void main(String[] args) throws Exception {
        ReadmeTest readme = new ReadmeTest(Files.readString(Path.of("README.md")));
        readme.examplePrintsWhatIsShown();
        readme.kindsAreOfTheirLetters();
        readme.tableTellsEachCall();
        readme.tableTellsEachAnswer();
        readme.howToTestCanBeDone();
        readme.listTellsEachTest();
        Check.end("ReadmeTest");
    }

    /** What stands between two texts, or nothing (which the test then tells as wrong). */
    private String between(String start, String end) {
        int from = text.indexOf(start);
        int to = from < 0 ? -1 : text.indexOf(end, from + start.length());
        return to < 0 ? "" : text.substring(from + start.length(), to);
    }

    private void examplePrintsWhatIsShown() throws IOException, InterruptedException {
        String[] printed = printedBy(between("```sh\n", "```")).split("\n");
        String[] shown = between("```text\n", "```").split("\n");
        Check.due("lines that the example prints", printed.length, shown.length);
        for (int line = 0; line < Math.min(printed.length, shown.length); line++) {
            Check.that("the example prints \"" + shown[line] + "\", not \"" + printed[line] + "\"",
                printed[line].equals(shown[line]));
        }
    }

    // Beside a copy of the class alone, so that nothing that was built ahead of it can help.
    private static String printedBy(String commands) throws IOException, InterruptedException {
        Path copied = COPY.resolve(CLASS);
        Files.createDirectories(copied.getParent());
        Files.copy(CLASS, copied, StandardCopyOption.REPLACE_EXISTING);
        Path script = COPY.resolve("commands.sh");
        Files.writeString(script, commands);
        File output = COPY.resolve("printed.txt").toFile();
        Process shell = new ProcessBuilder("sh", "-eu", "commands.sh").directory(COPY.toFile())
            .redirectErrorStream(true).redirectOutput(output).start();
        Check.due("the end of the example's commands", shell.waitFor(), 0);
        return Files.readString(output.toPath());
    }

    private void kindsAreOfTheirLetters() {
        Matcher row = Pattern.compile("\\| `(\\w)` \\| (\\d) ").matcher(between("### How a SHOP is typed", "###"));
        int rows = 0;
        while (row.find()) {
            KidGloves x = Check.shop(row.group(1) + "5,g0;0");
            Check.due("KIND of " + row.group(1), x.glove(0, 0), Integer.parseInt(row.group(2)));
            rows++;
        }
        Check.due("rows of KINDS", rows, 5);
    }

    private void tableTellsEachCall() {
        Map<String, Integer> told = new TreeMap<>();
        Matcher call = Pattern.compile("`(\\w+)\\(([^)]*)\\)`").matcher(between("### What the calls are for", "Several"));
        while (call.find()) {
            told.put(call.group(1), call.group(2).isEmpty() ? 0 : call.group(2).split(",").length);
        }
        Map<String, Integer> calls = new TreeMap<>();
        for (Method method : KidGloves.class.getDeclaredMethods()) {
            if (Modifier.isPublic(method.getModifiers())) {
                calls.put(method.getName(), method.getParameterCount());
            }
        }
        Check.that("the calls told, " + told + ", are " + calls, told.equals(calls));
    }

    private void tableTellsEachAnswer() throws IllegalAccessException {
        for (Field field : KidGloves.class.getFields()) {
            String named = "`" + field.getName() + "` (" + field.getInt(null) + ")";
            Check.that(named + " is told", text.contains(named));
        }
    }

    private void howToTestCanBeDone() {
        Check.that("the tests are run by .ci/run", between("## How to run its tests\n\n```sh\n", "```").equals(".ci/run\n"));
        Check.that("it can be run", Files.isExecutable(Path.of(".ci", "run")));
    }

    private void listTellsEachTest() throws IOException {
        Set<String> told = new TreeSet<>();
        Matcher name = Pattern.compile("`(\\w+Test)`").matcher(text);
        while (name.find()) {
            told.add(name.group(1));
        }
        Set<String> tests = new TreeSet<>();
        try (var files = Files.newDirectoryStream(TESTS, "*Test.java")) {
            for (Path file : files) {
                tests.add(file.getFileName().toString().replace(".java", ""));
            }
        }
        Check.that("the tests told, " + told + ", are " + tests, told.equals(tests));
    }
}
