import java.io.IOException;
import java.nio.file.DirectoryStream;
import java.nio.file.Files;
import java.nio.file.Path;
import java.util.regex.Matcher;
import java.util.regex.Pattern;

/** That the example of README.md answers as it says, and that every test is named there. Run it from the checkout. */
public final class ReadmeTest {
    private static final Pattern EXAMPLE = Pattern.compile("```java\n(.*?)```", Pattern.DOTALL);
    private static final Pattern ROW = Pattern.compile("cache\\.(\\w+)\\(([^)]*)\\);\\s+// ([^\\s:]+)(:.*)?");
    private static final int FEWEST_CALLS = 10;

    public static void main(String[] args) throws IOException {
        Check check = new Check();
        String readme = Files.readString(Path.of("README.md"));
        Matcher example = EXAMPLE.matcher(readme);
        check.due("README.md has an example", true, example.find());
        playExample(check, example.group(1));
        namesEveryTest(check, readme);
        check.due("README.md says how to run the tests", true, readme.contains("    .ci/run\n"));
        check.end();
    }

    private static void playExample(Check check, String example) {
        String[] lines = example.split("\n");
        check.same("the first line makes the object", "MissRegisters cache = new MissRegisters();", lines[0]);
        MissRegisters cache = new MissRegisters();
        for (int i = 1; i < lines.length; i++) {
            Matcher row = ROW.matcher(lines[i]);
            if (row.matches()) {
                check.same("README.md, " + lines[i], row.group(3), Script.outcome(cache, written(row)));
            } else {
                check.same("a line of the example", "cache.call(arguments); // answer: why", lines[i]);
            }
        }
        check.due("the example is more than a few calls", true, lines.length > FEWEST_CALLS);
    }

    /** The call as a row of Script has it. */
    private static String written(Matcher row) {
        String arguments = row.group(2).replace(",", "").replace("true", "on").replace("false", "off");
        return (row.group(1) + " " + arguments).trim();
    }

    private static void namesEveryTest(Check check, String readme) throws IOException {
        try (DirectoryStream<Path> tests = Files.newDirectoryStream(Path.of("src/test/java"), "*Test.java")) {
            for (Path test : tests) {
                String name = test.getFileName().toString().replace(".java", "");
                check.due("README.md names " + name, true, readme.contains("| `" + name + "` |"));
            }
        }
    }
}
