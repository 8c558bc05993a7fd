import java.io.IOException;
import java.nio.file.Files;
import java.nio.file.Path;
import java.util.regex.Matcher;
import java.util.regex.Pattern;

/** The rules of LANGUAGE.md that can be seen word by word; it is run in the project's folder. */
public final class LanguageTest {
    private static final Path PROGRAM = Path.of("src/main/java/BowedPlate.java");
    private static final String[] RULED_OUT = {
        "\\bpackage\\b", "\\bimport\\b", "\\bthrows?\\b", "\\btry\\b", "\\bcatch\\b", "\\bfinally\\b",
        "\\bsynchronized\\b", "\\bassert\\b", "\\bvar\\b", "\\bnative\\b", "\\btransient\\b", "\\bvolatile\\b",
        "->", "::", "static\\s*\\{", "\\bdouble\\b", "\\bfloat\\b", "\\bStringBuilder\\b", "@",
        "\\bequals\\b", "\\bhashCode\\b", "\\btoString\\b", "\\w+Exact\\b", "\\w+Exception\\b",
        "\\bMath\\.(?!max|min|abs)", "\\bSystem\\.(?!arraycopy)", "\"",
        "\\b(?:protected)\\b", "\\bwhile\\s*\\(\\s*true", "for\\s*\\(\\s*;",
    };
    private static final int LONGEST_METHOD = 60;

    private static final Checks checks = new Checks("LanguageTest");

    private LanguageTest() {
    }

    public static void main(String[] arguments) throws IOException {
        String source = Files.readString(PROGRAM);
        String bare = source.replaceAll("(?s)/\\*.*?\\*/", "").replaceAll("//[^\n]*", "");
        for (String ruledOut : RULED_OUT) {
            Matcher matcher = Pattern.compile(ruledOut).matcher(bare);
            checks.holds("no " + ruledOut + " in the program", !matcher.find());
        }
        for (int index = 0; index < source.length(); index++) {
            char sign = source.charAt(index);
            checks.holds("plain sign at " + index, sign == '\n' || sign >= ' ' && sign < 127);
        }
        staticFieldsAreFinal(bare);
        methodsAreShort(bare);
        classesAreFew(bare);
        checks.end();
    }

    private static void staticFieldsAreFinal(String bare) {
        for (String line : bare.split("\n")) {
            boolean isField = line.matches("\\s*(public|private)?\\s*static\\s[^(]*=.*");
            checks.holds("static and final: " + line, !isField || line.contains(" final "));
            boolean isClass = line.matches("\\s+.*\\bclass\\b.*");
            checks.holds("static inside: " + line, !isClass || line.contains(" static "));
        }
    }

    private static void methodsAreShort(String bare) {
        String[] lines = bare.split("\n");
        for (int start = 0; start < lines.length; start++) {
            Matcher matcher = Pattern.compile("( +)[\\w\\[\\] ]+\\([^;=]*\\) \\{").matcher(lines[start]);
            if (!matcher.matches()) {
                continue;
            }
            int end = start;
            while (end < lines.length && !lines[end].equals(matcher.group(1) + "}")) {
                end++;
            }
            checks.holds("short: " + lines[start], end - start < LONGEST_METHOD);
        }
    }

    private static void classesAreFew(String bare) {
        Matcher matcher = Pattern.compile("\\bclass\\b").matcher(bare);
        int classes = 0;
        while (matcher.find()) {
            classes++;
        }
        checks.holds("at most twelve classes", classes <= 12);
    }
}
