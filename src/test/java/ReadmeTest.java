import java.io.IOException;
import java.nio.file.Files;
import java.nio.file.Path;
import java.util.ArrayList;
import java.util.List;
import java.util.regex.Matcher;
import java.util.regex.Pattern;

/** README.md shows runs that hold, the first of them the document's own, and names each test and each exception. */
public final class ReadmeTest {
    private static final Path SHARED = Path.of(System.getProperty("shared", "../shared"));
    private static final Path TESTS = Path.of("src/test/java");
    private static final String WORD_OF_REFUSAL = "throws ";

    public static void main(String[] args) throws IOException {
        String readme = Files.readString(Path.of("README.md"));
        List<List<String>> runs = runs(readme);
        Runs.due("the runs of the page", runs.size(), 2);
        Runs.due("the first run of the page", runs.get(0), example());
        playInTurn(runs);
        checkNames(readme);
        Runs.end();
    }

    /** The rows of each block of Java, written as Runs plays them. */
    private static List<List<String>> runs(String readme) {
        List<List<String>> runs = new ArrayList<>();
        Matcher blocks = Pattern.compile("(?s)```java\n(.*?)```").matcher(readme);
        while (blocks.find()) {
            List<String> rows = new ArrayList<>();
            for (String line : blocks.group(1).split("\n")) {
                if (line.startsWith("house.")) {
                    rows.add(row(line));
                }
            }
            runs.add(rows);
        }
        return runs;
    }

    private static String row(String line) {
        Matcher parts = Pattern.compile("house\\.(\\w+\\(.*\\)); +// ([^:]+)(: .*)?").matcher(line);
        if (!parts.matches()) {
            return "a row that cannot be read: " + line;
        }
        String answer = parts.group(2).trim();
        boolean isRefused = answer.startsWith(WORD_OF_REFUSAL);
        return parts.group(1) + (isRefused ? " ! " + answer.substring(WORD_OF_REFUSAL.length()) : " = " + answer);
    }

    private static List<String> example() throws IOException {
        Matcher block = Pattern.compile("(?s)First example:\\s*```text\n(.*?)```")
                .matcher(Files.readString(SHARED.resolve("DOC.md")));
        List<String> rows = new ArrayList<>();
        if (block.find()) {
            for (String row : block.group(1).trim().replaceAll("\\.$", "").split(";")) {
                rows.add(row.trim());
            }
        }
        return rows;
    }

    /** Each run goes on with the house of the runs before it. */
    private static void playInTurn(List<List<String>> runs) {
        List<String> played = new ArrayList<>();
        for (List<String> run : runs) {
            for (String row : run) {
                played.add(row.startsWith("shippedShare() = ") ? asFloat(row) : row);
            }
        }
        Runs.play("README.md", String.join("; ", played));
    }

    /** Runs tells a float as the double that it is. */
    private static String asFloat(String row) {
        int sign = row.lastIndexOf("= ") + 2;
        return row.substring(0, sign) + (double) Float.parseFloat(row.substring(sign));
    }

    private static void checkNames(String readme) throws IOException {
        try (var files = Files.list(TESTS)) {
            for (Path file : files.sorted().toList()) {
                String name = file.getFileName().toString().replace(".java", "");
                Runs.due("README.md names " + name, readme.contains("`" + name + "`"), true);
            }
        }
        String[] texts = {"IndexOutOfBoundsException", "IllegalArgumentException", "UnsupportedOperationException",
            "IllegalStateException", "NoSuchElementException", "512 calls", ".ci/run", "changes nothing", "JDK 17"};
        for (String text : texts) {
            Runs.due("README.md says " + text, readme.contains(text), true);
        }
    }
}
