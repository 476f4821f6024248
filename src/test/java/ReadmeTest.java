import java.io.File;
import java.io.IOException;
import java.nio.file.Files;
import java.nio.file.Path;
import java.util.HashMap;
import java.util.Map;
import java.util.regex.Matcher;
import java.util.regex.Pattern;

/** README.md says what is true: its example answers as it says, and it names every test; it is run where the project lies. */
public final class ReadmeTest {
    private static final Expect EXPECT = new Expect();
    private static final Pattern CALL = Pattern.compile("(?m)^(?:int (\\w+) = )?x\\.(\\w+\\([^;]*\\)); +// (-?\\d+)");

    private static void example(String readme) {
        int from = readme.indexOf("```java");
        String code = readme.substring(from, readme.indexOf("```", from + 3));
        GroupCursors x = new GroupCursors();
        Map<String, String> names = new HashMap<>();
        Matcher found = CALL.matcher(code);
        int calls = 0;
        while (found.find()) {
            String call = found.group(2);
            for (Map.Entry<String, String> name : names.entrySet()) {
                call = call.replaceAll("([(,] ?)" + name.getKey() + "\\b", "$1" + name.getValue());
            }
            String got = new CallText(call).on(x);
            EXPECT.dueText("README.md: " + found.group(2), got, found.group(3));
            if (found.group(1) != null) {
                names.put(found.group(1), got);
            }
            calls++;
        }
        int made = calls;
        EXPECT.due("calls of the example", code.lines().filter(l -> l.contains("x.")).count(), () -> made);
    }

    private static void tests(String readme) {
        File[] files = new File("src/test/java").listFiles((where, name) -> name.endsWith("Test.java"));
        EXPECT.dueTruth("there are tests", true, () -> files != null && files.length > 0);
        for (File file : files == null ? new File[0] : files) {
            String row = "| `" + file.getName().replace(".java", "") + "` |";
            EXPECT.dueTruth("README.md has the row " + row, true, () -> readme.contains(row));
        }
        Matcher found = Pattern.compile("(?m)^\\| `(\\w+)` \\|").matcher(readme);
        while (found.find()) {
            File file = new File("src/test/java", found.group(1) + ".java");
            EXPECT.dueTruth("there is " + file, true, () -> file.isFile());
        }
    }

    public static void main(String[] args) throws IOException {
        String readme = Files.readString(Path.of("README.md"));
        example(readme);
        tests(readme);
        EXPECT.done();
    }
}
