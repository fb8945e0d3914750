import java.io.IOException;
import java.nio.file.Files;
import java.nio.file.Path;
import java.util.List;
import java.util.regex.Matcher;
import java.util.regex.Pattern;
import java.util.stream.Stream;

/** README.md: its example compiles, and prints what its comments say; each test stands in its table. */
public final class ReadmeTest {
    private static final Pattern EXAMPLE = Pattern.compile("(?s)```java\n(.*?)```");
    private static final Pattern PRINTED = Pattern.compile("System\\.out\\.println\\(.*\\); +// ([^:]*):");

    public static void main(String[] args) throws IOException, InterruptedException {
        String readme = Files.readString(Path.of("README.md"));
        exampleIsRight(readme);
        eachTestIsNamed(readme);
        Check.end("ReadmeTest");
    }

    private static void exampleIsRight(String readme) throws IOException, InterruptedException {
        Matcher example = EXAMPLE.matcher(readme);
        Check.due("an example", true, example.find());
        Path folder = Files.createTempDirectory("readme");
        try {
            Path source = Files.writeString(folder.resolve("Example.java"), example.group(1));
            Command.compile(folder, List.of(Path.of("src/main/java/DropMarket.java"), source));
            List<String> due = PRINTED.matcher(example.group(1)).results().map(line -> line.group(1)).toList();
            Check.due("what the example prints", due, Command.run(folder, "Example").lines().toList());
        } finally {
            Command.delete(folder);
        }
    }

    private static void eachTestIsNamed(String readme) throws IOException {
        try (Stream<Path> sources = Files.list(Path.of("src/test/java"))) {
            List<String> names = sources.map(source -> source.getFileName().toString()).sorted().toList();
            for (String name : names) {
                if (name.endsWith("Test.java")) {
                    String test = "| `" + name.replace(".java", "") + "` |";
                    Check.due("README.md names " + test, true, readme.contains(test));
                }
            }
        }
    }
}
