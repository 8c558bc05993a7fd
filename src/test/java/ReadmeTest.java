import java.io.IOException;
import java.nio.charset.StandardCharsets;
import java.nio.file.Files;
import java.nio.file.Path;
import java.util.ArrayList;
import java.util.Comparator;
import java.util.List;
import java.util.regex.Matcher;
import java.util.regex.Pattern;
import java.util.stream.Stream;

/** What README.md says is so: its commands are run in a copy of the project's folder. */
public final class ReadmeTest {
    private static final Path TESTS = Path.of("src/test/java");
    private static final String TEST_RUN = ".ci/run";

    private static final Checks checks = new Checks("ReadmeTest");

    private ReadmeTest() {
    }

    public static void main(String[] arguments) throws IOException, InterruptedException {
        String page = Files.readString(Path.of("README.md"));
        Path folder = Files.createTempDirectory("readme");
        try {
            copyProgramAndTests(folder);
            theExampleAnswersAsTold(page, folder);
            theCommandsRun(page, folder);
        } finally {
            remove(folder);
        }
        everyTestIsInTheTable(page);
        theNumbersOfTheErrors(page);
        checks.end();
    }

    /** The texts between "```name" and "```". */
    private static List<String> blocks(String page, String name) {
        List<String> blocks = new ArrayList<>();
        Matcher matcher = Pattern.compile("(?ms)^```" + name + "\n(.*?)^```$").matcher(page);
        while (matcher.find()) {
            blocks.add(matcher.group(1));
        }
        return blocks;
    }

    private static void copyProgramAndTests(Path folder) throws IOException {
        Path program = Path.of("src/main/java/BowedPlate.java");
        Files.createDirectories(folder.resolve(program).getParent());
        Files.copy(program, folder.resolve(program));
        Files.createDirectories(folder.resolve(TESTS));
        for (Path test : allTests()) {
            Files.copy(test, folder.resolve(test));
        }
    }

    private static List<Path> allTests() throws IOException {
        try (Stream<Path> paths = Files.list(TESTS)) {
            return paths.filter(path -> path.toString().endsWith(".java")).sorted().toList();
        }
    }

    private static void remove(Path folder) throws IOException {
        List<Path> all;
        try (Stream<Path> paths = Files.walk(folder)) {
            all = paths.sorted(Comparator.reverseOrder()).toList();
        }
        for (Path path : all) {
            Files.delete(path);
        }
    }

    /** What a command says; its exit code is checked too. */
    private static String said(String command, Path folder) throws IOException, InterruptedException {
        Process process = new ProcessBuilder("sh", "-c", command).directory(folder.toFile())
                .redirectErrorStream(true).start();
        process.getOutputStream().close();
        String said = new String(process.getInputStream().readAllBytes(), StandardCharsets.UTF_8);
        checks.due("exit code of " + command.strip() + ", which said " + said.strip(), 0, process.waitFor());
        return said.replace("\r", "");
    }

    private static void theExampleAnswersAsTold(String page, Path folder) throws IOException, InterruptedException {
        List<String> programs = blocks(page, "java");
        List<String> answers = blocks(page, "text");
        List<String> commands = blocks(page, "sh");
        checks.due("examples", 1, programs.size());
        checks.due("answers", 1, answers.size());
        checks.holds("the first command runs the example", commands.get(0).contains("Show"));
        Files.writeString(folder.resolve("Show.java"), programs.get(0));
        String[] due = answers.get(0).split("\n");
        String[] got = said(commands.get(0), folder).split("\n");
        checks.due("lines of the example", due.length, got.length);
        for (int line = 0; line < Math.min(due.length, got.length); line++) {
            checks.holds("line " + line + " is \"" + due[line] + "\", the example says \"" + got[line] + "\"",
                    due[line].equals(got[line]));
        }
    }

    /** All but the first one, which the example has run, and .ci/run, which runs this test. */
    private static void theCommandsRun(String page, Path folder) throws IOException, InterruptedException {
        List<String> commands = blocks(page, "sh");
        checks.due("commands", 3, commands.size());
        checks.holds("one runs the tests", commands.get(1).strip().equals(TEST_RUN));
        checks.holds("it can be run", Files.isExecutable(Path.of(TEST_RUN)));
        String said = said(commands.get(2), folder);
        checks.holds("the last one runs a test by itself, and says " + said, said.contains("0 wrong"));
    }

    private static void everyTestIsInTheTable(String page) throws IOException {
        for (Path test : allTests()) {
            String name = test.getFileName().toString().replace(".java", "");
            checks.holds("README.md tells of " + name, page.contains("`" + name + "`"));
        }
        Matcher matcher = Pattern.compile("`(\\w+Test)`").matcher(page);
        while (matcher.find()) {
            checks.holds("there is a " + matcher.group(1), Files.exists(TESTS.resolve(matcher.group(1) + ".java")));
        }
    }

    private static void theNumbersOfTheErrors(String page) {
        String[] names = {"UNKNOWN", "BAD_VALUE", "FULL", "NOT_POSSIBLE", "NONE"};
        int[] numbers = {BowedPlate.UNKNOWN, BowedPlate.BAD_VALUE, BowedPlate.FULL, BowedPlate.NOT_POSSIBLE,
            BowedPlate.NONE};
        for (int index = 0; index < names.length; index++) {
            checks.holds("README.md has the number of " + names[index],
                    page.contains("| " + numbers[index] + " | `" + names[index] + "` |"));
        }
    }
}
