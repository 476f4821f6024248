import java.io.File;
import java.io.IOException;
import java.nio.file.Files;
import java.nio.file.Path;
import java.util.Set;
import java.util.regex.Matcher;
import java.util.regex.Pattern;

/** The rules of LANGUAGE.md as far as the text of the program shows them; it is run where the project lies. */
public final class LanguageTest {
    private static final Expect EXPECT = new Expect();
    private static final Path PROGRAM = Path.of("src", "main", "java", "GroupCursors.java");
    private static final Set<String> IMPORTS = Set.of("java.util.ArrayList", "java.util.Arrays", "java.util.Iterator",
        "java.util.List", "java.util.NoSuchElementException");
    private static final String THROWN = "IllegalStateException|IllegalArgumentException|IndexOutOfBoundsException"
        + "|ArithmeticException|UnsupportedOperationException|NoSuchElementException|RuntimeException";
    private static final int MOST_LINES = 60;

    /** The program without its comments, and with nothing inside its texts. */
    private static String bare(String text) {
        return text.replaceAll("(?s)/\\*.*?\\*/", "").replaceAll("\"[^\"\n]*\"", "\"\"").replaceAll("//[^\n]*", "");
    }

    private static void none(String rule, String code, String pattern) {
        Matcher found = Pattern.compile(pattern).matcher(code);
        EXPECT.dueText("rule " + rule, found.find() ? "has " + found.group().trim() : "", "");
    }

    private static void oneFile() {
        File[] files = PROGRAM.getParent().toFile().listFiles();
        EXPECT.due("files beside the program", 1, () -> files == null ? 0 : files.length);
    }

    private static void imports(String code) {
        Matcher found = Pattern.compile("import ([^;]+);").matcher(code);
        while (found.find()) {
            String name = found.group(1);
            EXPECT.dueTruth("rule 4: import " + name, true, () -> IMPORTS.contains(name));
        }
    }

    private static void words(String code) {
        none("of the file: no package line", code, "\\bpackage\\b");
        none("2: no lambda, no method reference", code, "->|::");
        none("5: static fields are final", code, "(?m)^\\s+(private|public|protected)? ?static (?!final)[\\w\\[\\]]+ \\w+( =|;)");
        none("5: no static initialiser block", code, "\\bstatic\\s*\\{");
        none("6: no such words", code, "\\b(finally|synchronized|assert|equals|hashCode|toString|getMessage)\\b");
        none("6: nothing is caught: no call of the face needs it", code, "\\b(try|catch)\\b");
        none("6: throw new E() or with a written text", code, "\\bthrow (?!new (" + THROWN + ")\\((\"\")?\\);)[^;]*;");
        none("9: every loop has an end that can be seen", code, "\\b(while|do)\\b|for \\(;;|; ;");
        none("13: no clock, no randomness", code, "\\bSystem\\.(?!arraycopy)\\w+|\\b(Random|Thread|File|Math\\.random)\\b");
    }

    /** Rule 12: a constructor hands out nothing of the object that it makes; what a field begins with is made there, too. */
    private static void constructors(String code) {
        none("12: a field begins with nothing handed out", code, "(?m)^\\s+(private |final )+[\\w\\[\\]]+ \\w+ = new \\w+\\([^)]+\\)");
        none("12: a field begins without a call", code, "(?m)^\\s+(private |final )+[\\w\\[\\]]+ \\w+ = (?!new )[^;]*\\(");
        Matcher found = Pattern.compile("(?m)^    (?:    )?(?:public )?([A-Z]\\w*)\\(([^)]*)\\) \\{([^}]*)\\}").matcher(code);
        int many = 0;
        while (found.find()) {
            String body = found.group(3);
            for (String line : body.split(";")) {
                String name = found.group(1);
                EXPECT.dueTruth("rule 12: constructor " + name + " does no more than set fields: " + line.trim(), true,
                    () -> line.isBlank() || line.trim().matches("this\\.\\w+ = \\w+( \\+ \\w+)?"));
            }
            many++;
        }
        int constructors = many;
        EXPECT.dueTruth("constructors were found", true, () -> constructors >= 3);
    }

    /** Rule 11, with the face's own signatures among them. */
    private static void methods(String text, String code) {
        Matcher found = Pattern.compile("(?m)^( {4}| {8})(?! )[\\w\\[\\] ]+ (\\w+)\\(([^)]*)\\)[^;{=]*\\{").matcher(code);
        int many = 0;
        while (found.find()) {
            String name = found.group(2);
            String parameters = found.group(3);
            int end = code.indexOf("\n" + found.group(1) + "}", found.start());
            String body = code.substring(found.start(), end);
            EXPECT.dueTruth("rule 11: " + name + " takes at most seven", true, () -> parameters.split(",").length <= 7);
            EXPECT.dueTruth("rule 11: " + name + " stays short", true, () -> body.lines().count() <= MOST_LINES);
            many++;
        }
        int methods = many;
        EXPECT.dueTruth("methods were found", true, () -> methods >= 25);
        EXPECT.dueTruth("rule 3: texts hold characters 0 to 255 alone", true, () -> text.chars().allMatch(c -> c <= 255));
    }

    public static void main(String[] args) throws IOException {
        String text = Files.readString(PROGRAM);
        String code = bare(text);
        oneFile();
        imports(code);
        words(code);
        constructors(code);
        methods(text, code);
        EXPECT.done();
    }
}
