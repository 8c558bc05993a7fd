import java.io.IOException;
import java.nio.file.Files;
import java.nio.file.Path;
import java.util.ArrayList;
import java.util.List;
import java.util.regex.Matcher;
import java.util.regex.Pattern;

/**
 * The class's text against the document's, and SENTENCES.md against both: it has every word of the
 * document, and the tests that it names are there. It is run in the project's folder.
 */
public final class DocumentTest {
    private static final Path DOCUMENT = Path.of("../shared/DOC.md");
    private static final Path PROGRAM = Path.of("src/main/java/BowedPlate.java");
    private static final Path SENTENCES = Path.of("src/test/SENTENCES.md");
    private static final Path TESTS = Path.of("src/test/java");

    private static final Checks checks = new Checks("DocumentTest");

    private DocumentTest() {
    }

    public static void main(String[] arguments) throws IOException {
        String document = Files.readString(DOCUMENT);
        String program = Files.readString(PROGRAM);
        String sentences = Files.readString(SENTENCES);
        theFaceIsInTheClassWordByWord(document, program);
        theHeadingsStandAheadOfTheirCalls(document, program);
        noWordIsLeftOut(document, sentences);
        everySentenceHasATest(sentences);
        everyTestIsThere(sentences);
        checks.end();
    }

    /** "The public face": each of its lines, in its order. */
    private static void theFaceIsInTheClassWordByWord(String document, String program) {
        Matcher block = Pattern.compile("(?s)```java\n(.*?)```").matcher(document);
        checks.holds("the document has a face", block.find());
        int from = 0;
        for (String line : block.group(1).split("\n")) {
            String due = line.strip();
            if (due.endsWith(");")) {
                due = due.replace(");", ") {");
            }
            int found = program.indexOf(due, from);
            checks.holds("the class has, in its order: " + due, found >= 0);
            from = Math.max(from, found);
        }
    }

    /** "Ahead of the calls .. the interface says: ---- ..": behind each heading its calls alone. */
    private static void theHeadingsStandAheadOfTheirCalls(String document, String program) {
        Matcher sentence = Pattern.compile("Ahead of the calls (.*) the interface says: (---- .*)\\.")
                .matcher(document);
        List<String> due = new ArrayList<>();
        while (sentence.find()) {
            due.add(sentence.group(2));
            due.addAll(List.of(sentence.group(1).replace("`", "").split(", ")));
        }
        Matcher line = Pattern.compile("(?m)^    (?:// (---- .*)|public int (\\w+)\\(.*)$").matcher(program);
        List<String> found = new ArrayList<>();
        while (line.find()) {
            found.add(line.group(1) != null ? line.group(1) : line.group(2));
        }
        checks.due("headings and calls", 5 + 24, due.size());
        checks.holds("headings and calls are " + due + ", found " + found, due.equals(found));
    }

    private static void noWordIsLeftOut(String document, String sentences) {
        List<String> words = new ArrayList<>();
        for (String line : sentences.split("\n")) {
            if (line.startsWith(">")) {
                words.addAll(wordsOf(line.substring(1)));
            }
        }
        List<String> due = wordsOf(document);
        int same = 0;
        while (same < due.size() && same < words.size() && due.get(same).equals(words.get(same))) {
            same++;
        }
        checks.holds("SENTENCES.md goes another way at " + around(words, same) + ", due is " + around(due, same),
                same == due.size() && same == words.size());
    }

    private static List<String> wordsOf(String text) {
        return text.isBlank() ? List.of() : List.of(text.strip().split("\\s+"));
    }

    private static String around(List<String> words, int index) {
        return "\"" + String.join(" ", words.subList(Math.max(0, index - 3), Math.min(words.size(), index + 8))) + "\"";
    }

    private static void everySentenceHasATest(String sentences) {
        String[] paragraphs = sentences.split("\n\n");
        int pieces = 0;
        for (int index = 0; index < paragraphs.length; index++) {
            if (paragraphs[index].startsWith(">")) {
                pieces++;
                checks.holds("there is a test, or a reason, of " + paragraphs[index],
                        index + 1 < paragraphs.length && paragraphs[index + 1].startsWith("- "));
            }
        }
        checks.holds("many pieces: " + pieces, pieces > 200);
    }

    private static void everyTestIsThere(String sentences) throws IOException {
        int named = 0;
        for (String line : sentences.split("\n")) {
            Matcher test = Pattern.compile("- (\\w+Test)\\.(\\w+)").matcher(line);
            if (test.matches()) {
                named++;
                String source = Files.readString(TESTS.resolve(test.group(1) + ".java"));
                String call = test.group(2) + "(";
                checks.holds("there is a " + line.substring(2), source.contains("private static void " + call));
                checks.holds(line.substring(2) + " is called", source.contains("        " + call));
            } else {
                checks.holds("a test or a reason: " + line, !line.startsWith("- ") || line.startsWith("- ("));
            }
        }
        checks.holds("many tests are named: " + named, named > 200);
    }
}
